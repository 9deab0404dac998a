/** The sentences of the document's sections "What it is" and "Terms", one test or more for each. */
public final class TermsTest {
    public static void main(String[] args) {
        Check.run(TermsTest.class);
    }

    // ---- what it is: each part of the first sentence, and the second one

    @About(words = "A timeline service")
    private static void aNewObjectServes() {
        Followrow x = new Followrow();
        x.follow(0, 1);
        Check.due("a post", x.post(1), 0);
        Check.due("in the timeline", x.next(0, 150), 0);
    }

    @About(words = "people follow authors")
    private static void peopleFollow() {
        Followrow x = new Followrow();
        Edges.posts(x, 1, 1);
        Check.due("before", x.follows(0, 1) + ", " + State.timeline(x, 0), "false, ");
        x.follow(0, 1);
        Check.due("then", x.follows(0, 1) + ", " + State.timeline(x, 0), "true, 0");
    }

    @About(words = "posts of small authors are pushed into the rows of their followers")
    private static void smallAuthorsArePushed() {
        Followrow x = Edges.crowd();
        x.setMark(7);
        x.post(7);
        for (int person = 0; person < 7; person++) {
            Check.due("the row of " + person, State.row(x, person), "0");
        }
        Check.due("the author's own row", State.row(x, 7), "");
    }

    @About(words = "those of large ones are fetched when a timeline is read")
    private static void largeAuthorsAreFetched() {
        Followrow x = Edges.crowd();
        x.post(7);
        for (int person = 0; person < 7; person++) {
            Check.due("of " + person, State.row(x, person) + ", " + State.timeline(x, person), ", 0");
        }
        Check.due("the author's own timeline", State.timeline(x, 7), "");
    }

    @About(words = "rows are cut")
    private static void rowsAreCut() {
        Followrow x = Edges.reader(1);
        Edges.posts(x, 1, 12);
        Check.due("by ten", rowAndFloor(x, 0), "2 3 4 5 6 7 8 9 10 11, 1");
        Check.due("and the timeline with it", State.timeline(x, 0), "11 10 9 8 7 6 5 4 3 2");
    }

    @About(words = "authors cross the mark")
    private static void authorsCrossTheMarkByFollows() {
        Followrow x = Edges.reader(1);
        Edges.followed(x, 1, 2, 3);
        x.post(1);
        Check.due("three followers", x.isLarge(1) + ", " + State.row(x, 0), "false, 0");
        x.follow(4, 1);
        Check.due("four followers", x.isLarge(1) + ", " + State.row(x, 0), "true, ");
        x.unfollow(2, 1);
        Check.due("three again", x.isLarge(1) + ", " + State.row(x, 0), "false, 0");
    }

    @About(words = "posts are deleted")
    private static void postsAreDeleted() {
        Followrow x = Edges.reader(1);
        Edges.posts(x, 1, 2);
        x.delete(0);
        Check.due("one is left", State.row(x, 0) + ", " + State.timeline(x, 0), "1, 1");
    }

    @About(words = "reposts show once")
    private static void repostsShowOnce() {
        Followrow x = Edges.reader(1, 2, 3);
        x.post(1);
        x.repost(2, 0);
        x.repost(3, 0);
        x.repost(3, 1);
        Check.due("the newest one alone", State.timeline(x, 0) + "; " + State.row(x, 0), "3; 0 1 2 3");
    }

    @About(words = "people mute and block one another")
    private static void peopleMuteAndBlockOneAnother() {
        Followrow x = new Followrow();
        x.mute(0, 1, true);
        Check.due("the other one mutes too", x.mute(1, 0, true), false);
        Check.due("both do", x.mute(0, 1, true) && x.mute(1, 0, true), true);
        x.block(0, 1, true);
        Check.due("the other one blocks too", x.block(1, 0, true), false);
        Check.due("both do", x.block(0, 1, true) && x.block(1, 0, true), true);
    }

    @About(words = "An object is used for at most 512 calls after it has been made")
    private static void theLastCallOfAll() {
        Followrow x = Edges.reader(1);
        for (int call = 2; call <= 511; call++) {
            x.mute(0, 1, call % 2 == 0);
        }
        Check.due("the 512th call", x.mute(0, 1, true), false);
    }

    @About(words = "An object is used for at most 512 calls after it has been made")
    private static void theLastCallOfAllInAFullObject() {
        Followrow x = Edges.full();
        for (int entry = 0; entry < 147; entry++) {
            x.delete(entry);
        }
        for (int call = 299; call <= 511; call++) {
            x.setRoom(1 + call % 40);
        }
        Check.due("the 512th call", x.lengthByMerging(0), 1);
    }

    // ---- terms: people and entries

    @About(words = "People follow, post, repost, delete, mute and block")
    private static void whatPeopleDo() {
        Followrow x = new Followrow();
        Check.due("follow", x.follow(0, 1), 1);
        Check.due("post", x.post(1), 0);
        Check.due("repost", x.repost(2, 0), 1);
        Check.due("delete", x.delete(0), 1);
        Check.due("mute", x.mute(3, 1, true), false);
        Check.due("block", x.block(4, 1, true), false);
    }

    @About(words = "rows and marks are asked")
    private static void rowsAndMarksAreAsked() {
        Followrow x = Edges.lively();
        Check.due("the row", State.row(x, 0) + ", " + x.inRow(0) + ", " + x.floorOf(0), "2 5, 2, 1");
        Check.due("over the mark", x.isLarge(2) + ", " + x.isLarge(0), "true, false");
    }

    @About(words = "timelines are read newest first by cursors")
    private static void newestFirst() {
        Followrow x = Edges.reader(1, 2);
        Edges.posts(x, 1, 2);
        Edges.posts(x, 2, 2);
        x.post(1);
        Check.due("the timeline", State.timeline(x, 0), "4 3 2 1 0");
    }

    @About(words = "Calls that ask change nothing.")
    private static void askingChangesNothing() {
        Edges.Call[] asks = {
            x -> x.entries(), x -> x.authorOf(3), x -> x.originOf(5), x -> x.follows(0, 1),
            x -> x.followers(2), x -> x.isLarge(2), x -> x.inRow(0), x -> x.rowAt(0, 1),
            x -> x.floorOf(0), x -> x.shows(0, 7), x -> x.next(0, 150), x -> x.pageEnd(0, 150, 2),
            x -> x.length(0), x -> x.lengthByMerging(0), x -> x.hasGap(0),
        };
        for (int i = 0; i < asks.length; i++) {
            Edges.unchanged("the call " + i, Edges::lively, asks[i]);
        }
    }

    @About(words = "Calls that ask change nothing.")
    private static void askingTwiceAnswersTheSame() {
        Followrow x = Edges.lively();
        for (int person = 0; person < 8; person++) {
            String first = State.timeline(x, person) + "; " + State.row(x, person);
            x.lengthByMerging(7 - person);
            Check.due("of " + person, State.timeline(x, person) + "; " + State.row(x, person), first);
        }
    }

    @About(words = "There are 8 people, 0 to 7, who can all be authors.")
    private static void eachOneAsPersonAndAuthor() {
        for (int person = 0; person < 8; person++) {
            for (int author = 0; author < 8; author++) {
                if (person != author) {
                    Followrow x = new Followrow();
                    x.follow(person, author);
                    x.post(author);
                    Check.due("to " + person + " by " + author, State.timeline(x, person), "0");
                }
            }
        }
    }

    @About(words = "There are 8 people, 0 to 7")
    private static void nobodyBesideTheEight() {
        Edges.outside(Check.INDEX, 0, 7, Edges::lively, (x, n) -> x.isLarge(n));
        Edges.outside(Check.INDEX, 0, 7, Edges::lively, (x, n) -> x.length(n));
    }

    @About(words = "Entries are numbered from 0 on, in their order")
    private static void numbersOfPostsAndReposts() {
        Followrow x = new Followrow();
        Check.due("the first one", x.post(5), 0);
        Check.due("a repost", x.repost(4, 0), 1);
        Check.due("a post", x.post(5), 2);
        Check.due("a repost of a repost", x.repost(3, 1), 3);
        Check.index("the next one is not there yet", () -> x.authorOf(4));
    }

    @About(words = "at most 150 are made")
    private static void atMost150() {
        Followrow x = new Followrow();
        for (int made = 0; made < 149; made++) {
            x.post(made % 8);
        }
        Check.due("the last one", x.repost(0, 148), 149);
        Check.state("no post any more", () -> x.post(0));
        Check.state("no repost any more", () -> x.repost(0, 0));
        Check.due("the last one's author", x.authorOf(149), 0);
        Check.index("the number 150", () -> x.authorOf(150));
    }

    @About(words = "An entry is a post, or a repost of a post")
    private static void postsAndRepostsAreEntries() {
        Followrow x = Edges.reader(1, 2);
        x.post(1);
        x.repost(2, 0);
        Check.due("both count", x.entries(), 2);
        Check.due("both are in the row", State.row(x, 0), "0 1");
        Check.due("both have an author", x.authorOf(0) + ", " + x.authorOf(1), "1, 2");
        Check.due("both can be deleted", x.delete(1) + ", " + x.delete(0), "0, 0");
    }

    @About(words = "its origin is the post itself, or the post that it reposts")
    private static void originsOfPostsAndReposts() {
        Followrow x = new Followrow();
        Edges.posts(x, 1, 2);
        x.repost(2, 1);
        x.repost(3, 2);
        Check.due("the first post", x.originOf(0), 0);
        Check.due("the second post", x.originOf(1), 1);
        Check.due("its repost", x.originOf(2), 1);
        Check.due("the repost's repost", x.originOf(3), 1);
    }

    @About(words = "Deleted entries stay numbered.")
    private static void deletedEntriesStayNumbered() {
        Followrow x = Edges.reader(1);
        Edges.posts(x, 1, 2);
        x.delete(1);
        x.delete(0);
        Check.due("the next number", x.post(2), 2);
        Check.due("a deleted one's author", x.authorOf(1), 1);
        Check.due("a deleted one's origin", x.originOf(0), 0);
        Check.due("a deleted one does not show", x.shows(0, 1), false);
        Check.state("a deleted one is deleted", () -> x.delete(1));
    }

    @About(words = "An author with more followers than the mark is large, others are small")
    private static void asManyAsTheMarkIsSmall() {
        for (int followers = 0; followers <= 7; followers++) {
            for (int mark = 0; mark <= 8; mark++) {
                Followrow x = new Followrow();
                Edges.followedBy(x, 7, followers);
                x.setMark(mark);
                Check.due(followers + " over " + mark, x.isLarge(7), followers > mark);
            }
        }
    }

    @About(words = "the mark is 3 at first")
    private static void theFirstMark() {
        Followrow x = new Followrow();
        Edges.followedBy(x, 7, 3);
        Check.due("three followers", x.isLarge(7), false);
        x.follow(5, 7);
        Check.due("four followers", x.isLarge(7), true);
    }

    @About(words = "Following oneself is not possible.")
    private static void followingOneself() {
        for (int person = 0; person < 8; person++) {
            Followrow x = new Followrow();
            int one = person;
            Check.argument("by " + person, () -> x.follow(one, one));
            Check.due("follows", x.follows(one, one), false);
        }
    }

    // ---- terms: rows

    @About(words = "with room for some entries, 10 at first for all")
    private static void theFirstRoomOfEverybody() {
        for (int person = 0; person < 8; person++) {
            Followrow x = new Followrow();
            x.follow(person, 7 - person);
            Edges.posts(x, 7 - person, 10);
            Check.due("ten", x.inRow(person) + ", " + x.floorOf(person), "10, -1");
            x.post(7 - person);
            Check.due("eleven", x.inRow(person) + ", " + x.floorOf(person), "10, 0");
        }
    }

    @About(words = "a floor, a number, -1 at first")
    private static void theFirstFloorOfEverybody() {
        Followrow x = new Followrow();
        for (int person = 0; person < 8; person++) {
            Check.due("of " + person, x.floorOf(person), -1);
        }
    }

    private static String rowAndFloor(Followrow x, int person) {
        return State.row(x, person) + ", " + x.floorOf(person);
    }

    /** Author 1 has made three posts; there is room for two; nobody follows. */
    private static Followrow threePosts() {
        Followrow x = new Followrow();
        x.setRoom(2);
        Edges.posts(x, 1, 3);
        return x;
    }

    /** Author 1, with three posts, is large by four followers, 0 and 2 to 4; the rows are empty. */
    private static Followrow threePostsOfALargeAuthor() {
        Followrow x = new Followrow();
        x.setRoom(2);
        Edges.followed(x, 1, 0, 2, 3, 4);
        Edges.posts(x, 1, 3);
        return x;
    }

    @About(words = "Behind each call that changes something, for each person")
    private static void rowsBehindFollow() {
        Followrow x = threePosts();
        x.follow(0, 1);
        Check.due("follows", rowAndFloor(x, 0), "1 2, 0");
        Check.due("does not follow", rowAndFloor(x, 2), ", -1");
        Edges.followed(x, 1, 2, 3);
        Check.due("still small", rowAndFloor(x, 0), "1 2, 0");
        x.follow(4, 1);
        Check.due("large by the follow of another one", rowAndFloor(x, 0), ", 0");
        Check.due("the one who followed last", rowAndFloor(x, 4), ", -1");
    }

    @About(words = "Behind each call that changes something, for each person")
    private static void rowsBehindUnfollow() {
        Followrow x = threePostsOfALargeAuthor();
        Check.due("large", rowAndFloor(x, 0), ", -1");
        x.unfollow(4, 1);
        Check.due("small", rowAndFloor(x, 0), "1 2, 0");
        Check.due("for another one too", rowAndFloor(x, 3), "1 2, 0");
        Check.due("not for the one who left", rowAndFloor(x, 4), ", -1");
        x.unfollow(0, 1);
        Check.due("left, and the floor stays", rowAndFloor(x, 0), ", 0");
    }

    @About(words = "Behind each call that changes something, for each person")
    private static void rowsBehindBlock() {
        Followrow x = threePostsOfALargeAuthor();
        x.block(1, 4, true);
        Check.due("small by the author's block", rowAndFloor(x, 0), "1 2, 0");
        x.block(3, 1, true);
        Check.due("out of the row by the follower's block", rowAndFloor(x, 3), ", 0");
        x.block(1, 2, true);
        Check.due("out of the row by the author's block", rowAndFloor(x, 2), ", 0");
        x.block(1, 2, false);
        Check.due("taken back", rowAndFloor(x, 2), ", 0");
        x.follow(2, 1);
        Check.due("and followed", rowAndFloor(x, 2), "1 2, 0");
    }

    @About(words = "Behind each call that changes something, for each person")
    private static void rowsBehindPost() {
        Followrow x = threePosts();
        Edges.followed(x, 1, 0, 7);
        x.post(1);
        Check.due("the one", rowAndFloor(x, 0), "2 3, 1");
        Check.due("the other one", rowAndFloor(x, 7), "2 3, 1");
        x.post(2);
        Check.due("of another author", rowAndFloor(x, 0), "2 3, 1");
    }

    @About(words = "Behind each call that changes something, for each person")
    private static void rowsBehindRepost() {
        Followrow x = threePosts();
        Edges.followed(x, 1, 0, 7);
        x.repost(1, 0);
        Check.due("the one", rowAndFloor(x, 0), "2 3, 1");
        Check.due("the other one", rowAndFloor(x, 7), "2 3, 1");
        x.repost(2, 0);
        Check.due("by another author", rowAndFloor(x, 0), "2 3, 1");
    }

    @About(words = "Behind each call that changes something, for each person")
    private static void rowsBehindDelete() {
        Followrow x = threePosts();
        Edges.followed(x, 1, 0, 7);
        x.delete(2);
        Check.due("the one, without those that were cut", rowAndFloor(x, 0), "1, 0");
        Check.due("the other one", rowAndFloor(x, 7), "1, 0");
        x.post(1);
        Check.due("room for one more", rowAndFloor(x, 0), "1 3, 0");
    }

    @About(words = "Behind each call that changes something, for each person")
    private static void rowsBehindSetMark() {
        Followrow x = threePostsOfALargeAuthor();
        x.setMark(4);
        Check.due("small", rowAndFloor(x, 0), "1 2, 0");
        x.setMark(3);
        Check.due("large, and the floor stays", rowAndFloor(x, 0), ", 0");
        x.setMark(8);
        Check.due("small again", rowAndFloor(x, 4), "1 2, 0");
    }

    @About(words = "Behind each call that changes something, for each person")
    private static void rowsBehindSetRoom() {
        Followrow x = threePosts();
        Edges.followed(x, 1, 0, 7);
        x.setRoom(1);
        Check.due("the one", rowAndFloor(x, 0), "2, 1");
        Check.due("the other one", rowAndFloor(x, 7), "2, 1");
        x.setRoom(3);
        Check.due("what was cut stays out", rowAndFloor(x, 0), "2, 1");
    }

    @About(words = "Behind each call that changes something, for each person")
    private static void rowsBehindMute() {
        Followrow x = threePosts();
        x.follow(0, 1);
        x.mute(0, 1, true);
        Check.due("muted authors stay in rows", rowAndFloor(x, 0), "1 2, 0");
        x.post(1);
        Check.due("and are pushed into them", rowAndFloor(x, 0), "2 3, 1");
        x.mute(0, 1, false);
        Check.due("taken back", rowAndFloor(x, 0), "2 3, 1");
    }

    @About(words = "the row has all entries of the small authors whom the person follows")
    private static void rowsOfSmallFollowedAuthorsAlone() {
        Followrow x = Edges.reader(1, 2, 3);
        Edges.followed(x, 3, 4, 5, 6);
        for (int author = 0; author < 5; author++) {
            x.post(author);
        }
        x.repost(2, 0);
        Check.due("of 1 and 2, with reposts", State.row(x, 0), "1 2 5");
    }

    @About(words = "by numbers above the floor")
    private static void rowsAboveTheFloorAlone() {
        Followrow x = new Followrow();
        x.post(2);
        x.setRoom(1);
        x.follow(0, 1);
        Edges.posts(x, 1, 2);
        x.post(2);
        x.setRoom(10);
        x.follow(0, 2);
        Check.due("not the entry 0 below the floor 1", rowAndFloor(x, 0), "2 3, 1");
        x.unfollow(0, 1);
        x.follow(0, 1);
        Check.due("not the floor itself", rowAndFloor(x, 0), "2 3, 1");
    }

    @About(words = "that are not deleted")
    private static void rowsWithoutDeletedEntries() {
        Followrow x = Edges.reader(1);
        Edges.posts(x, 1, 3);
        x.repost(1, 1);
        x.delete(1);
        Check.due("a deleted post is out, its repost is not", State.row(x, 0), "0 2 3");
        x.delete(3);
        Check.due("a deleted repost is out", State.row(x, 0), "0 2");
    }

    @About(words = "as long as these are more than the room")
    private static void rowsAsManyAsTheRoomAreNotCut() {
        for (int room : new int[] {1, 2, 39, 40}) {
            Followrow x = Edges.reader(1);
            x.setRoom(room);
            Edges.posts(x, 1, room);
            Check.due("just the room", x.inRow(0) + ", " + x.floorOf(0), room + ", -1");
            x.post(1);
            Check.due("one more", x.inRow(0) + ", " + x.floorOf(0), room + ", 0");
            x.post(1);
            Check.due("two more", x.inRow(0) + ", " + x.floorOf(0), room + ", 1");
        }
    }

    @About(words = "as long as these are more than the room")
    private static void rowsCutManyAtOnce() {
        Followrow x = Edges.reader(1);
        Edges.posts(x, 1, 10);
        x.setRoom(1);
        Check.due("nine at once", rowAndFloor(x, 0), "9, 8");
        Followrow y = new Followrow();
        y.setRoom(1);
        Edges.posts(y, 1, 150);
        y.follow(0, 1);
        Check.due("149 at once", rowAndFloor(y, 0), "149, 148");
    }

    @About(words = "the floor becomes the number of the lowest one of them, which is out of the row then")
    private static void theFloorIsTheNumberOfTheCutEntry() {
        Followrow x = Edges.reader(1);
        x.setRoom(2);
        x.post(2);
        x.post(1);
        Edges.posts(x, 2, 3);
        Edges.posts(x, 1, 2);
        Check.due("over numbers of others", rowAndFloor(x, 0), "5 6, 1");
        Edges.posts(x, 2, 2);
        x.post(1);
        Check.due("once more", rowAndFloor(x, 0), "6 9, 5");
    }

    @About(words = "the floor becomes the number of the lowest one of them")
    private static void deletedEntriesAreNotCut() {
        Followrow x = Edges.reader(1);
        x.setRoom(2);
        Edges.posts(x, 1, 2);
        x.delete(0);
        x.post(1);
        Check.due("room again", rowAndFloor(x, 0), "1 2, -1");
        x.post(1);
        Check.due("over the deleted one", rowAndFloor(x, 0), "2 3, 1");
    }

    // ---- terms: timelines

    @About(words = "An entry is due for a person if the person follows its author")
    private static void dueOfFollowedAuthors() {
        Followrow x = new Followrow();
        x.post(0);
        x.post(1);
        Check.due("nobody is followed", State.timeline(x, 0), "");
        x.follow(0, 1);
        Check.due("1 is, oneself is not", State.timeline(x, 0), "1");
        Check.due("the followed one does not follow back", State.timeline(x, 1), "");
        x.unfollow(0, 1);
        Check.due("not any more", State.timeline(x, 0), "");
    }

    @About(words = "has not muted its author")
    private static void dueOfAuthorsNotMuted() {
        Followrow x = Edges.reader(1, 2);
        x.post(1);
        x.post(2);
        x.mute(0, 1, true);
        Check.due("1 is muted", State.timeline(x, 0), "1");
        x.mute(0, 1, false);
        x.mute(1, 0, true);
        x.mute(3, 2, true);
        Check.due("others mute", State.timeline(x, 0), "1 0");
        x.setMark(0);
        x.mute(0, 2, true);
        Check.due("a large one is muted", State.timeline(x, 0), "0");
    }

    @About(words = "and the number is above the floor")
    private static void dueAboveTheFloor() {
        Followrow x = Edges.reader(1);
        x.setRoom(2);
        x.post(2);
        Edges.posts(x, 1, 4);
        x.post(2);
        x.setMark(0);
        x.follow(0, 2);
        Check.due("fetched, above the floor 2 alone", State.timeline(x, 0) + ", " + x.floorOf(0), "5 4 3, 2");
    }

    @About(words = "it and its origin are not deleted")
    private static void dueItselfNotDeleted() {
        Followrow x = Edges.reader(1, 2);
        x.post(1);
        x.post(1);
        x.repost(2, 1);
        x.delete(0);
        Check.due("a deleted post", State.timeline(x, 0), "2");
        x.delete(2);
        Check.due("a deleted repost gives way to its post", State.timeline(x, 0), "1");
    }

    @About(words = "it and its origin are not deleted")
    private static void dueOriginNotDeleted() {
        Followrow x = Edges.reader(2);
        x.post(1);
        x.repost(2, 0);
        Check.due("a repost", State.timeline(x, 0), "1");
        x.delete(0);
        Check.due("in the row, of a deleted post", State.timeline(x, 0) + "; " + State.row(x, 0), "; 1");
        x.setMark(0);
        Check.due("fetched, of a deleted post", State.timeline(x, 0) + "; " + State.row(x, 0), "; ");
    }

    @About(words = "the author of its origin is neither muted by the person")
    private static void dueOriginAuthorNotMuted() {
        Followrow x = Edges.reader(2);
        x.post(1);
        x.repost(2, 0);
        x.mute(0, 1, true);
        Check.due("muted, in the row", State.timeline(x, 0), "");
        x.setMark(0);
        Check.due("muted, fetched", State.timeline(x, 0), "");
        x.mute(0, 1, false);
        x.mute(2, 1, true);
        Check.due("muted by the reposter", State.timeline(x, 0), "1");
    }

    @About(words = "nor has blocked the person")
    private static void dueOriginAuthorHasNotBlocked() {
        Followrow x = Edges.reader(2);
        x.post(1);
        x.repost(2, 0);
        x.block(1, 0, true);
        Check.due("blocked, in the row", State.timeline(x, 0), "");
        x.setMark(0);
        Check.due("blocked, fetched", State.timeline(x, 0), "");
        x.block(1, 0, false);
        x.block(1, 3, true);
        Check.due("another person is blocked", State.timeline(x, 0), "1");
    }

    @About(words = "(whom the person has blocked does not matter)")
    private static void whomThePersonHasBlocked() {
        Followrow x = Edges.reader(2);
        x.post(1);
        x.repost(2, 0);
        x.block(0, 1, true);
        Check.due("the person has blocked the author of the origin", State.timeline(x, 0), "1");
        x.setMark(0);
        Check.due("and fetched", State.timeline(x, 0), "1");
    }

    @About(words = "(Entries of small authors are in the row then; those of large ones are fetched.)")
    private static void crossingTheMarkKeepsTheTimeline() {
        Followrow x = Edges.reader(1, 2);
        Edges.followed(x, 2, 3);
        x.post(1);
        x.post(2);
        x.repost(2, 0);
        x.post(1);
        for (int mark : new int[] {0, 1, 2, 1, 0}) {
            x.setMark(mark);
            Check.due("by the mark " + mark, State.timeline(x, 0), "3 2 1");
        }
        Check.due("the row by the mark 0", State.row(x, 0), "");
        x.setMark(1);
        Check.due("the row by the mark 1", State.row(x, 0), "0 3");
        x.setMark(2);
        Check.due("the row by the mark 2", State.row(x, 0), "0 1 2 3");
    }

    @About(words = "Of the due entries with the same origin the one with the greatest number shows.")
    private static void theNewestOfAnOriginShows() {
        Followrow x = Edges.reader(1, 2, 3);
        x.post(1);
        x.repost(2, 0);
        x.post(1);
        x.repost(3, 1);
        Check.due("each origin once", State.timeline(x, 0), "3 2");
        x.repost(1, 0);
        Check.due("the author's own repost", State.timeline(x, 0), "4 2");
    }

    @About(words = "Of the due entries with the same origin the one with the greatest number shows.")
    private static void entriesThatAreNotDueHideNothing() {
        Followrow x = Edges.reader(1, 2, 3);
        x.post(1);
        x.repost(2, 0);
        x.repost(3, 0);
        x.repost(4, 0);
        Check.due("one that is not followed", State.timeline(x, 0), "2");
        x.mute(0, 3, true);
        Check.due("one that is muted", State.timeline(x, 0), "1");
        x.delete(1);
        Check.due("one that is deleted", State.timeline(x, 0), "0");
        x.mute(0, 3, false);
        x.unfollow(0, 1);
        Check.due("the origin need not be due", State.timeline(x, 0), "2");
    }

    @About(words = "Of the due entries with the same origin the one with the greatest number shows.")
    private static void aLargeAuthorsRepostOverASmallOnesPost() {
        Followrow x = Edges.reader(1, 2);
        Edges.followed(x, 2, 3, 4, 5);
        x.post(1);
        x.repost(2, 0);
        Check.due("fetched over pushed", State.timeline(x, 0) + "; " + State.row(x, 0), "1; 0");
        x.repost(1, 1);
        Check.due("pushed over fetched", State.timeline(x, 0) + "; " + State.row(x, 0), "2; 0 2");
    }

    @About(words = "The timeline of a person are the entries that show, those with greater numbers first.")
    private static void fetchedAndPushedEntriesInOneOrder() {
        Followrow x = Edges.reader(1, 2);
        Edges.followed(x, 2, 3, 4, 5);
        for (int i = 0; i < 6; i++) {
            x.post(1 + i % 2);
        }
        Check.due("the row", State.row(x, 0), "0 2 4");
        Check.due("the timeline", State.timeline(x, 0), "5 4 3 2 1 0");
    }

    // ---- terms: blocks and exceptions

    @About(words = "If an author blocks a person, neither follows the other one any more")
    private static void blocksEndFollows() {
        Followrow x = Edges.crowd();
        x.block(7, 0, true);
        Check.due("the blocked one", x.follows(0, 7), false);
        Check.due("the blocking one", x.follows(7, 0), false);
        int left = 0;
        for (int author = 0; author < 8; author++) {
            left += x.followers(author);
        }
        Check.due("all others stay", left, 54);
    }

    @About(words = "neither can follow the other one until the block is taken back")
    private static void blocksRefuseFollows() {
        Followrow x = new Followrow();
        x.block(7, 0, true);
        Check.state("the blocked one", () -> x.follow(0, 7));
        Check.state("the blocking one", () -> x.follow(7, 0));
        x.block(7, 0, false);
        Check.due("the blocked one then", x.follow(0, 7), 1);
        Check.due("the blocking one then", x.follow(7, 0), 1);
    }

    @About(words = "until the block is taken back")
    private static void twoBlocksAreTakenBackEachAlone() {
        Followrow x = new Followrow();
        x.block(7, 0, true);
        x.block(0, 7, true);
        x.block(7, 0, false);
        Check.state("one is left", () -> x.follow(0, 7));
        Check.state("one is left, the other way", () -> x.follow(7, 0));
        x.block(0, 7, false);
        Check.due("none is left", x.follow(0, 7), 1);
    }

    @About(words = "A call that throws an exception changes nothing.")
    private static void manyRefusedCallsChangeNothing() {
        Edges.unchanged("all of them", Edges::lively, x -> {
            for (Edges.Call call : REFUSED) {
                String got = Check.answer(() -> call.on(x));
                Check.due("refused", got.startsWith("throws."), true);
            }
            return "none";
        });
    }

    private static final Edges.Call[] REFUSED = {
        x -> x.follow(8, 1), x -> x.follow(2, 2), x -> x.follow(0, 1), x -> x.follow(6, 7),
        x -> x.unfollow(0, -1), x -> x.unfollow(1, 2), x -> x.mute(-1, 0, true), x -> x.mute(1, 1, true),
        x -> x.block(0, 8, true), x -> x.block(1, 1, true), x -> x.post(8), x -> x.repost(8, 0),
        x -> x.repost(0, 8), x -> x.repost(0, 3), x -> x.delete(8), x -> x.delete(3),
        x -> x.setMark(9), x -> x.setRoom(41), x -> x.authorOf(8), x -> x.originOf(-1),
        x -> x.follows(8, 0), x -> x.followers(8), x -> x.isLarge(8), x -> x.inRow(8),
        x -> x.rowAt(0, 2), x -> x.floorOf(8), x -> x.shows(0, 8), x -> x.next(0, 151),
        x -> x.pageEnd(0, 150, 21), x -> x.length(8), x -> x.lengthByMerging(8), x -> x.hasGap(8),
    };

    @About(words = "If several apply, the one that the throws clause names first is thrown.")
    private static void theFirstOneIsThrown() {
        Followrow x = Edges.full();
        Check.index("follow: no such one, both the same", () -> x.follow(8, 8));
        Check.index("unfollow: no such one, does not follow", () -> x.unfollow(0, 8));
        Check.index("mute: no such one, both the same", () -> x.mute(-1, -1, true));
        Check.index("block: no such one, both the same", () -> x.block(-1, -1, true));
        Check.index("post: no such author, no place", () -> x.post(8));
        Check.index("repost: no such author, no place", () -> x.repost(8, 0));
        Check.index("repost: no such entry, no place", () -> x.repost(0, 150));
        Check.index("next: no such person, cursor out of range", () -> x.next(8, 151));
        Check.index("pageEnd: no such person, cursor out of range", () -> x.pageEnd(8, 151, 1));
        Check.index("pageEnd: no such person, size out of range", () -> x.pageEnd(8, 0, 0));
    }

    @About(words = "The constants: `NONE = -1`: There is none.")
    private static void noneIsMinusOne() {
        Check.due("NONE", Followrow.NONE, -1);
        Check.due("next", new Followrow().next(0, 150), -1);
        Check.due("pageEnd", new Followrow().pageEnd(0, 150, 20), -1);
    }
}
