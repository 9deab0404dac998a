/** For each promise of the document: ordinary inputs, the edges that it names, wrong inputs. */
public final class PromiseTest {
    private static final int[] NO_PERSON = {-1, 8, Integer.MIN_VALUE, Integer.MAX_VALUE};

    public static void main(String[] args) {
        promise1();
        promise2();
        promise3();
        promise4();
        promise5();
        promise5BothWays();
        promise6();
        promise7();
        promise8();
        promise9();
        promise10();
        promise11();
        promise12();
        promise13();
        promise14();
        promise15();
        promise16();
        promise17();
        promise18();
        promise19();
        promise20();
        promise21();
        promise22();
        promise23();
        promise24();
        promise25();
        rowsKeepWhatTimelinesHide();
        authorsCrossTheMark();
        Check.end();
    }

    private static void promise1() {
        Followrow x = new Followrow();
        Check.due("1: entries()", x.entries(), 0);
        for (int person = 0; person < 8; person++) {
            for (int author = 0; author < 8; author++) {
                Check.due("1: follows", x.follows(person, author), false);
                if (person != author) {
                    Check.due("1: was muted", x.mute(person, author, false), false);
                    Check.due("1: was blocked", x.block(person, author, false), false);
                }
            }
            Check.due("1: followers", x.followers(person), 0);
            Check.due("1: isLarge", x.isLarge(person), false);
            Check.due("1: inRow", x.inRow(person), 0);
            Check.due("1: floorOf", x.floorOf(person), -1);
            Check.due("1: next", x.next(person, 150), -1);
            Check.due("1: length", x.length(person), 0);
            Check.due("1: lengthByMerging", x.lengthByMerging(person), 0);
            Check.due("1: hasGap", x.hasGap(person), false);
        }
        Check.due("1: the room at first", x.setRoom(10), 10);
        Followrow y = new Followrow();
        y.post(0);
        Check.due("1: objects are apart", x.entries(), 0);
    }

    private static void promise2() {
        Followrow x = new Followrow();
        Check.due("2: the first follower", x.follow(0, 1), 1);
        Check.due("2: the second follower", x.follow(7, 1), 2);
        Check.due("2: another author", x.follow(0, 7), 1);
        Check.due("2: the other way", x.follow(1, 0), 1);
        Check.state("2: follows already", () -> x.follow(0, 1));
        Check.argument("2: oneself", () -> x.follow(3, 3));
        for (int wrong : NO_PERSON) {
            Check.index("2: no such person", () -> x.follow(wrong, 1));
            Check.index("2: no such author", () -> x.follow(1, wrong));
            Check.index("2: neither, and both the same", () -> x.follow(wrong, wrong));
        }
        x.block(4, 5, true);
        Check.state("2: the author has blocked the person", () -> x.follow(5, 4));
        Check.state("2: the person has blocked the author", () -> x.follow(4, 5));
        x.mute(6, 1, true);
        Check.due("2: a muted author", x.follow(6, 1), 3);
        Check.due("2: what threw changed nothing", x.followers(4) + x.followers(5), 0);
    }

    private static void promise3() {
        Followrow x = Edges.reader(1, 2);
        x.follow(3, 1);
        Edges.posts(x, 1, 2);
        Edges.posts(x, 2, 1);
        Check.due("3: one is left", x.unfollow(0, 1), 1);
        Check.due("3: follows no more", x.follows(0, 1), false);
        Check.due("3: the others stay", x.follows(0, 2) && x.follows(3, 1), true);
        Check.due("3: out of the row", State.row(x, 0), "2");
        Check.due("3: none is left", x.unfollow(3, 1), 0);
        Check.state("3: does not follow", () -> x.unfollow(0, 1));
        Check.state("3: never followed", () -> x.unfollow(2, 0));
        Check.state("3: oneself", () -> x.unfollow(2, 2));
        for (int wrong : NO_PERSON) {
            Check.index("3: no such person", () -> x.unfollow(wrong, 2));
            Check.index("3: no such author", () -> x.unfollow(0, wrong));
        }
    }

    private static void promise4() {
        Followrow x = Edges.reader(1, 2);
        x.post(1);
        x.repost(2, 0);
        x.post(2);
        Check.due("4: was not muted", x.mute(0, 1, true), false);
        Check.due("4: was muted", x.mute(0, 1, true), true);
        Check.due("4: a muted author's entries and reposts of them", State.timeline(x, 0), "2");
        Check.due("4: the row keeps them", State.row(x, 0), "0 1 2");
        Check.due("4: follows all the same", x.follows(0, 1), true);
        Check.due("4: was muted", x.mute(0, 1, false), true);
        Check.due("4: was not muted any more", x.mute(0, 1, false), false);
        Check.due("4: all are back", State.timeline(x, 0), "2 1");
        Check.due("4: the muted one mutes nobody", x.mute(1, 0, false), false);
        x.mute(0, 2, true);
        Check.due("4: a muted author's repost hides no post", State.timeline(x, 0), "0");
        Check.due("4: an author whom nobody follows", x.mute(5, 6, true), false);
        Check.due("4: for the one alone", x.mute(4, 6, true), false);
        Check.argument("4: oneself", () -> x.mute(2, 2, true));
        Check.argument("4: oneself, not any more", () -> x.mute(2, 2, false));
        for (int wrong : NO_PERSON) {
            Check.index("4: no such person", () -> x.mute(wrong, 1, true));
            Check.index("4: no such author", () -> x.mute(1, wrong, true));
            Check.index("4: neither, and both the same", () -> x.mute(wrong, wrong, false));
        }
    }

    private static void promise5() {
        Followrow x = Edges.reader(1, 2);
        x.follow(1, 0);
        x.post(1);
        x.repost(2, 0);
        Check.due("5: was not blocked", x.block(1, 0, true), false);
        Check.due("5: neither follows the other one", x.follows(0, 1) || x.follows(1, 0), false);
        Check.due("5: other follows stay", x.follows(0, 2), true);
        Check.due("5: reposts of the blocking author's posts", State.timeline(x, 0), "");
        Check.due("5: was blocked", x.block(1, 0, true), true);
        Check.due("5: the other way nobody is blocked", x.block(0, 1, false), false);
        Check.state("5: still blocked", () -> x.follow(0, 1));
        Check.due("5: taken back", x.block(1, 0, false), true);
        Check.due("5: not any more", x.block(1, 0, false), false);
        Check.due("5: reposts show again", State.timeline(x, 0), "1");
        Check.due("5: the follows stay away", x.follows(0, 1) || x.follows(1, 0), false);
        Check.due("5: can follow again", x.follow(0, 1), 1);
        Check.due("5: none to take back", x.block(1, 0, false), false);
        Check.due("5: then the follow stays", x.follows(0, 1), true);
        Check.argument("5: oneself", () -> x.block(2, 2, true));
        Check.argument("5: oneself, not any more", () -> x.block(2, 2, false));
        for (int wrong : NO_PERSON) {
            Check.index("5: no such author", () -> x.block(wrong, 1, true));
            Check.index("5: no such person", () -> x.block(1, wrong, true));
            Check.index("5: neither, and both the same", () -> x.block(wrong, wrong, false));
        }
    }

    private static void promise5BothWays() {
        Followrow x = Edges.reader(2);
        x.post(1);
        x.repost(2, 0);
        x.block(0, 1, true);
        Check.due("5: whom the person has blocked does not matter", State.timeline(x, 0), "1");
        x.block(1, 0, true);
        x.block(0, 1, false);
        Check.state("5: one block is left", () -> x.follow(0, 1));
        Check.state("5: one block is left, the other way", () -> x.follow(1, 0));
        x.block(1, 0, false);
        Check.due("5: none is left", x.follow(0, 1), 1);
        Followrow y = Edges.reader(1);
        y.setRoom(1);
        Edges.posts(y, 1, 2);
        y.block(1, 0, true);
        Check.due("5: a block empties the row", y.inRow(0), 0);
        Check.due("5: a block keeps the floor", y.floorOf(0), 0);
        Check.due("5: no gap without an author", y.hasGap(0), false);
    }

    private static void promise6() {
        Followrow x = new Followrow();
        for (int wrong : NO_PERSON) {
            Check.index("6: no such author", () -> x.post(wrong));
        }
        for (int entry = 0; entry < 150; entry++) {
            Check.due("6: its number", x.post(entry % 8), entry);
        }
        Check.state("6: 150 were made", () -> x.post(0));
        for (int wrong : NO_PERSON) {
            Check.index("6: 150 were made, and no such author", () -> x.post(wrong));
        }
        x.delete(149);
        Check.state("6: deleted entries count", () -> x.post(0));
        Check.due("6: what threw made nothing", x.entries(), 150);
    }

    private static void promise7() {
        Followrow x = new Followrow();
        Check.index("7: no entries", () -> x.repost(0, 0));
        x.post(1);
        Check.due("7: its number", x.repost(2, 0), 1);
        Check.due("7: a repost's repost", x.repost(3, 1), 2);
        Check.due("7: has the post as its origin", x.originOf(2), 0);
        Check.due("7: one's own post, and again", x.repost(1, 0), 3);
        for (int wrong : NO_PERSON) {
            Check.index("7: no such author", () -> x.repost(wrong, 0));
        }
        for (int wrong : new int[] {-1, 4, 150, Integer.MIN_VALUE, Integer.MAX_VALUE}) {
            Check.index("7: no such entry", () -> x.repost(0, wrong));
        }
        x.delete(1);
        Check.state("7: the entry is deleted", () -> x.repost(0, 1));
        Check.due("7: another repost of the origin", x.repost(0, 2), 4);
        x.block(3, 5, true);
        Check.due("7: a block by the reposter does not matter", x.repost(5, 2), 5);
        x.block(6, 1, true);
        Check.due("7: a block of the origin's author does not matter", x.repost(6, 2), 6);
        x.block(1, 7, true);
        Check.state("7: blocked by the origin's author", () -> x.repost(7, 0));
        Check.state("7: blocked by the origin's author, through a repost", () -> x.repost(7, 2));
        x.delete(0);
        Check.state("7: the origin is deleted", () -> x.repost(0, 2));
        Check.due("7: what threw made nothing", x.entries(), 7);
        x.post(0);
        Edges.posts(x, 0, 142);
        Check.state("7: 150 were made", () -> x.repost(1, 7));
        Check.index("7: 150 were made, and no such entry", () -> x.repost(1, 150));
        Check.index("7: 150 were made, and no such author", () -> x.repost(8, 7));
    }

    private static void promise8() {
        Followrow x = Edges.reader(1, 2);
        x.follow(3, 2);
        Check.index("8: no entries", () -> x.delete(0));
        x.post(1);
        x.repost(2, 0);
        x.repost(4, 0);
        x.repost(2, 1);
        x.post(1);
        Check.due("8: the newest repost shows", State.timeline(x, 0), "4 3");
        Check.due("8: a repost", x.delete(3), 0);
        Check.due("8: the one below shows", State.timeline(x, 0), "4 1");
        Check.due("8: out of the row", State.row(x, 0), "0 1 4");
        Check.due("8: a post with two reposts left", x.delete(0), 2);
        Check.due("8: reposts of a deleted post do not show", State.timeline(x, 0), "4");
        Check.due("8: but stay in the row", State.row(x, 0), "1 4");
        Check.due("8: a post with none", x.delete(4), 0);
        Check.state("8: deleted", () -> x.delete(0));
        Check.state("8: deleted", () -> x.delete(3));
        Check.due("8: a repost of a deleted post", x.delete(1), 0);
        for (int wrong : new int[] {-1, 5, 150, Integer.MIN_VALUE, Integer.MAX_VALUE}) {
            Check.index("8: no such entry", () -> x.delete(wrong));
        }
        Check.due("8: deleted entries stay numbered", x.post(1), 5);
        x.setMark(0);
        x.repost(2, 5);
        Check.due("8: a fetched repost", State.timeline(x, 0), "6");
        x.delete(6);
        Check.due("8: a deleted repost is not fetched", State.timeline(x, 0), "5");
        Check.due("8: the last one of all", x.delete(5), 0);
        Check.due("8: deleted ones are not fetched", State.timeline(x, 0), "");
    }

    private static void promise9() {
        Followrow x = Edges.reader(1, 2);
        for (int person = 3; person < 8; person++) {
            x.follow(person, 1);
        }
        x.follow(1, 0);
        x.follow(2, 1);
        Check.due("9: those with followers", x.setMark(0), 3);
        Check.due("9: more than one", x.setMark(1), 1);
        Check.due("9: seven are more than six", x.setMark(6), 1);
        Check.due("9: seven are not more than seven", x.setMark(7), 0);
        Check.due("9: eight", x.setMark(8), 0);
        for (int wrong : new int[] {-1, 9, Integer.MIN_VALUE, Integer.MAX_VALUE}) {
            Check.argument("9: out of range", () -> x.setMark(wrong));
        }
        Check.due("9: what threw changed nothing", x.isLarge(1), false);
    }

    private static void promise10() {
        Followrow x = Edges.reader(1);
        x.follow(2, 1);
        Edges.posts(x, 1, 12);
        Check.due("10: ten at first", State.row(x, 0), "2 3 4 5 6 7 8 9 10 11");
        Check.due("10: the room that it was", x.setRoom(1), 10);
        Check.due("10: cut for all", State.row(x, 0) + ", " + State.row(x, 2), "11, 11");
        Check.due("10: the floor", x.floorOf(0), 10);
        Check.due("10: the room that it was", x.setRoom(40), 1);
        Check.due("10: floors never fall", State.row(x, 0) + ", " + x.floorOf(0), "11, 10");
        Edges.posts(x, 1, 39);
        Check.due("10: forty", x.inRow(0) + ", " + x.floorOf(0), "40, 10");
        x.post(1);
        Check.due("10: one more", x.inRow(0) + ", " + x.floorOf(0), "40, 11");
        for (int wrong : new int[] {0, -1, 41, Integer.MIN_VALUE, Integer.MAX_VALUE}) {
            Check.argument("10: out of range", () -> x.setRoom(wrong));
        }
        Check.due("10: what threw changed nothing", x.setRoom(40), 40);
    }

    private static void promise11() {
        Followrow x = new Followrow();
        x.post(0);
        Check.due("11: a post", x.entries(), 1);
        x.repost(1, 0);
        Check.due("11: a repost", x.entries(), 2);
        x.delete(0);
        Check.due("11: a deleted one", x.entries(), 2);
    }

    private static void promise12() {
        Followrow x = new Followrow();
        Check.index("12: no entries", () -> x.authorOf(0));
        x.post(7);
        x.repost(3, 0);
        Check.due("12: a post", x.authorOf(0), 7);
        Check.due("12: a repost", x.authorOf(1), 3);
        x.delete(0);
        Check.due("12: a deleted one", x.authorOf(0), 7);
        for (int wrong : new int[] {-1, 2, 150, Integer.MIN_VALUE, Integer.MAX_VALUE}) {
            Check.index("12: no such entry", () -> x.authorOf(wrong));
        }
    }

    private static void promise13() {
        Followrow x = new Followrow();
        Check.index("13: no entries", () -> x.originOf(0));
        x.post(7);
        x.post(7);
        x.repost(3, 1);
        x.repost(2, 2);
        Check.due("13: a post", x.originOf(1), 1);
        Check.due("13: a repost", x.originOf(2), 1);
        Check.due("13: a repost's repost", x.originOf(3), 1);
        x.delete(1);
        x.delete(2);
        Check.due("13: a deleted post", x.originOf(1), 1);
        Check.due("13: a deleted repost", x.originOf(2), 1);
        for (int wrong : new int[] {-1, 4, 150, Integer.MIN_VALUE, Integer.MAX_VALUE}) {
            Check.index("13: no such entry", () -> x.originOf(wrong));
        }
    }

    private static void promise14() {
        Followrow x = new Followrow();
        x.follow(2, 5);
        Check.due("14: follows", x.follows(2, 5), true);
        Check.due("14: the other way", x.follows(5, 2), false);
        Check.due("14: oneself", x.follows(2, 2), false);
        for (int wrong : NO_PERSON) {
            Check.index("14: no such person", () -> x.follows(wrong, 5));
            Check.index("14: no such author", () -> x.follows(2, wrong));
        }
    }

    private static void promise15() {
        Followrow x = new Followrow();
        for (int person = 1; person < 8; person++) {
            x.follow(person, 0);
            Check.due("15: followers", x.followers(0), person);
        }
        x.follow(0, 7);
        Check.due("15: not whom one follows", x.followers(0), 7);
        x.block(3, 0, true);
        Check.due("15: without the one that blocks", x.followers(0), 6);
        x.unfollow(5, 0);
        Check.due("15: without the one that left", x.followers(0), 5);
        for (int wrong : NO_PERSON) {
            Check.index("15: no such author", () -> x.followers(wrong));
        }
    }

    private static void promise16() {
        Followrow x = new Followrow();
        for (int person = 1; person < 4; person++) {
            x.follow(person, 0);
        }
        Check.due("16: as many as the mark", x.isLarge(0), false);
        x.follow(4, 0);
        Check.due("16: more than the mark", x.isLarge(0), true);
        x.setMark(4);
        Check.due("16: a higher mark", x.isLarge(0), false);
        x.setMark(0);
        Check.due("16: no followers", x.isLarge(1), false);
        for (int wrong : NO_PERSON) {
            Check.index("16: no such author", () -> x.isLarge(wrong));
        }
    }

    private static void promise17() {
        Followrow x = Edges.reader(1);
        Edges.posts(x, 1, 4);
        Check.due("17: pushed", x.inRow(0), 4);
        Check.due("17: not to others", x.inRow(2) + x.inRow(1), 0);
        x.follow(2, 1);
        Check.due("17: those from before the follow", x.inRow(2), 4);
        Edges.posts(x, 3, 2);
        Check.due("17: not of others", x.inRow(0), 4);
        Edges.posts(x, 1, 7);
        Check.due("17: the room", x.inRow(0), 10);
        x.delete(10);
        Check.due("17: a deleted one leaves a place", x.inRow(0), 9);
        for (int wrong : NO_PERSON) {
            Check.index("17: no such person", () -> x.inRow(wrong));
        }
    }

    private static void promise18() {
        Followrow x = Edges.reader(1, 2);
        Check.index("18: an empty row", () -> x.rowAt(0, 0));
        x.post(1);
        x.post(3);
        x.post(2);
        x.post(1);
        Check.due("18: the lowest one", x.rowAt(0, 0), 0);
        Check.due("18: the middle one", x.rowAt(0, 1), 2);
        Check.due("18: the highest one", x.rowAt(0, 2), 3);
        for (int wrong : new int[] {-1, 3, 4, 40, Integer.MIN_VALUE, Integer.MAX_VALUE}) {
            Check.index("18: not so many", () -> x.rowAt(0, wrong));
        }
        for (int wrong : NO_PERSON) {
            Check.index("18: no such person", () -> x.rowAt(wrong, 0));
        }
        x.setRoom(2);
        Check.due("18: the lowest one that is left", x.rowAt(0, 0), 2);
        Check.index("18: not so many any more", () -> x.rowAt(0, 2));
    }

    private static void promise19() {
        Followrow x = Edges.reader(1);
        Edges.posts(x, 1, 10);
        Check.due("19: a full row", x.floorOf(0), -1);
        x.post(2);
        x.post(1);
        Check.due("19: one more", x.floorOf(0), 0);
        Check.due("19: of others", x.floorOf(2), -1);
        x.delete(11);
        x.delete(10);
        Check.due("19: a deleted one", x.floorOf(0), 0);
        x.unfollow(0, 1);
        x.follow(0, 1);
        Check.due("19: follows again", x.floorOf(0) + ", " + x.inRow(0), "0, 9");
        x.setRoom(3);
        Check.due("19: many at once", x.floorOf(0), 6);
        for (int wrong : NO_PERSON) {
            Check.index("19: no such person", () -> x.floorOf(wrong));
        }
    }

    private static void promise20() {
        Followrow x = Edges.reader(1, 2);
        Check.index("20: no entries", () -> x.shows(0, 0));
        x.post(1);
        x.repost(2, 0);
        x.repost(3, 0);
        x.post(0);
        x.repost(1, 3);
        Check.due("20: a newer one of the origin", x.shows(0, 0), false);
        Check.due("20: the newest one of the origin", x.shows(0, 1), true);
        Check.due("20: of an author whom the person does not follow", x.shows(0, 2), false);
        Check.due("20: one's own", x.shows(0, 3), false);
        Check.due("20: a repost of one's own", x.shows(0, 4), true);
        Check.due("20: another person's", x.shows(4, 1), false);
        x.delete(1);
        Check.due("20: a deleted one", x.shows(0, 1), false);
        Check.due("20: the one below it", x.shows(0, 0), true);
        x.setRoom(1);
        Check.due("20: not above the floor", x.shows(0, 0), false);
        for (int wrong : NO_PERSON) {
            Check.index("20: no such person", () -> x.shows(wrong, 0));
        }
        for (int wrong : new int[] {-1, 5, 150, Integer.MIN_VALUE, Integer.MAX_VALUE}) {
            Check.index("20: no such entry", () -> x.shows(0, wrong));
        }
    }

    private static void promise21() {
        Followrow x = Edges.reader(1, 2);
        x.post(1);
        x.post(1);
        x.repost(2, 0);
        Check.due("21: the first one", x.next(0, 150), 2);
        Check.due("21: just above", x.next(0, 3), 2);
        Check.due("21: below the first one", x.next(0, 2), 1);
        Check.due("21: a post that is reposted above the cursor", x.next(0, 1), Followrow.NONE);
        Check.due("21: zero", x.next(0, 0), Followrow.NONE);
        for (int wrong : new int[] {-1, 151, Integer.MIN_VALUE, Integer.MAX_VALUE}) {
            Check.argument("21: out of range", () -> x.next(0, wrong));
            Check.index("21: out of range, and no such person", () -> x.next(8, wrong));
        }
        for (int wrong : NO_PERSON) {
            Check.index("21: no such person", () -> x.next(wrong, 0));
        }
        Edges.posts(x, 1, 147);
        Check.due("21: the last entry of all", x.next(0, 150), 149);
        Check.due("21: below the last entry of all", x.next(0, 149), 148);
    }

    private static void promise22() {
        Followrow x = Edges.reader(1, 2);
        x.setRoom(40);
        Check.due("22: no entries", x.pageEnd(0, 150, 20), Followrow.NONE);
        Edges.posts(x, 1, 25);
        x.repost(2, 10);
        Check.due("22: one", x.pageEnd(0, 150, 1), 25);
        Check.due("22: two", x.pageEnd(0, 150, 2), 24);
        Check.due("22: over the reposted one", x.pageEnd(0, 150, 17), 8);
        Check.due("22: twenty", x.pageEnd(0, 150, 20), 5);
        Check.due("22: the next page has fewer", x.pageEnd(0, 5, 20), 0);
        Check.due("22: just as many", x.pageEnd(0, 5, 5), 0);
        Check.due("22: the page after it", x.pageEnd(0, 0, 20), Followrow.NONE);
        for (int wrong : new int[] {-1, 151, Integer.MIN_VALUE, Integer.MAX_VALUE}) {
            Check.argument("22: cursor out of range", () -> x.pageEnd(0, wrong, 1));
        }
        for (int wrong : new int[] {0, -1, 21, Integer.MIN_VALUE, Integer.MAX_VALUE}) {
            Check.argument("22: size out of range", () -> x.pageEnd(0, 150, wrong));
            Check.index("22: and no such person", () -> x.pageEnd(-1, 150, wrong));
        }
        for (int wrong : NO_PERSON) {
            Check.index("22: no such person", () -> x.pageEnd(wrong, 0, 1));
        }
    }

    private static void promise23() {
        Followrow x = Edges.reader(1, 2);
        x.post(1);
        x.post(2);
        x.repost(2, 0);
        x.post(3);
        Check.due("23: each origin once", x.length(0), 2);
        x.setMark(0);
        Check.due("23: large authors", x.length(0), 2);
        Edges.posts(x, 1, 60);
        Check.due("23: more than any row has room for", x.length(0), 62);
        Check.due("23: of another person", x.length(1), 0);
        x.block(1, 0, true);
        Check.due("23: blocked", x.length(0), 1);
        for (int wrong : NO_PERSON) {
            Check.index("23: no such person", () -> x.length(wrong));
        }
    }

    private static void promise24() {
        Followrow x = Edges.reader(1, 2);
        x.follow(3, 2);
        x.setMark(1);
        x.setRoom(3);
        Edges.posts(x, 1, 5);
        Edges.posts(x, 2, 3);
        x.repost(2, 4);
        Check.due("24: above the floor", x.lengthByMerging(0), 6);
        Check.due("24: the same", x.length(0), 6);
        x.post(4);
        Check.due("24: without others", x.lengthByMerging(0), 6);
        x.mute(0, 1, true);
        Check.due("24: without muted ones", x.lengthByMerging(0), 3);
        x.mute(0, 1, false);
        x.delete(4);
        Check.due("24: without deleted ones and their reposts", x.lengthByMerging(0), 5);
        x.block(1, 3, true);
        Check.due("24: of another person", x.lengthByMerging(3), 3);
        for (int wrong : NO_PERSON) {
            Check.index("24: no such person", () -> x.lengthByMerging(wrong));
        }
    }

    private static void promise25() {
        Followrow x = Edges.reader(1);
        x.post(3);
        Edges.posts(x, 1, 10);
        Check.due("25: nothing was cut", x.hasGap(0), false);
        x.post(1);
        Check.due("25: one was cut", x.hasGap(0), true);
        x.mute(0, 1, true);
        Check.due("25: muted", x.hasGap(0), true);
        x.delete(1);
        Check.due("25: the one that was cut is deleted", x.hasGap(0), false);
        x.follow(0, 3);
        Check.due("25: an older one of another author", x.hasGap(0), true);
        x.unfollow(0, 3);
        Check.due("25: not followed any more", x.hasGap(0), false);
        for (int wrong : NO_PERSON) {
            Check.index("25: no such person", () -> x.hasGap(wrong));
        }
        Followrow y = Edges.reader(1, 2);
        y.setRoom(1);
        Edges.posts(y, 1, 2);
        y.setMark(0);
        Check.due("25: of a large author", y.hasGap(0), true);
        Check.due("25: without a gap", y.hasGap(1), false);
    }

    private static void rowsKeepWhatTimelinesHide() {
        Followrow x = Edges.reader(1, 2);
        x.setRoom(2);
        x.post(1);
        x.mute(0, 2, true);
        Edges.posts(x, 2, 2);
        Check.due("rows: muted entries take places", State.row(x, 0), "1 2");
        Check.due("rows: and cut others", State.timeline(x, 0) + x.floorOf(0), "0");
        Followrow y = Edges.reader(2);
        y.setRoom(1);
        y.post(1);
        y.repost(2, 0);
        Check.due("rows: the origin may stand below the floor", State.timeline(y, 0), "1");
        y.post(2);
        Check.due("rows: the repost is cut", State.timeline(y, 0) + ", " + y.floorOf(0), "2, 1");
    }

    private static void authorsCrossTheMark() {
        Followrow x = Edges.reader(1, 2);
        x.follow(3, 1);
        x.setMark(1);
        x.setRoom(2);
        Edges.posts(x, 1, 3);
        Edges.posts(x, 2, 1);
        Check.due("mark: the row has the small ones", State.row(x, 0), "3");
        Check.due("mark: the large ones are fetched", State.timeline(x, 0), "3 2 1 0");
        x.block(3, 1, true);
        Check.due("mark: small again", State.row(x, 0) + ", " + x.floorOf(0), "2 3, 1");
        x.follow(4, 1);
        Check.due("mark: large again, below the floor", State.row(x, 0) + ", " + State.timeline(x, 0), "3, 3 2");
        x.unfollow(4, 1);
        Check.due("mark: and small", State.row(x, 0), "2 3");
        Check.due("mark: two large authors", x.setMark(0), 2);
        Check.due("mark: an empty row keeps the floor", x.inRow(0) + ", " + x.floorOf(0), "0, 1");
    }
}
