/** The edges that promises 20 to 25 name: what is asked of timelines. */
public final class TimelineEdgesTest {
    public static void main(String[] args) {
        Check.run(TimelineEdgesTest.class);
    }

    /** Person 0 follows the large author 1, who has made as many posts. */
    private static Followrow fetching(int posts) {
        Followrow x = Edges.reader(1);
        x.setMark(0);
        Edges.posts(x, 1, posts);
        return x;
    }

    /** Person 0 has the floor 1 and the row 2; author 2 is large and has made 0 and 3. */
    private static Followrow atTheFloor() {
        Followrow x = Edges.reader(1, 2);
        x.follow(3, 2);
        x.setMark(1);
        x.setRoom(1);
        x.post(2);
        Edges.posts(x, 1, 2);
        x.post(2);
        return x;
    }

    // ---- promise 20: shows

    @About(promise = 20, words = "- `person`: 0 to 7")
    private static void showsPersonInRange() {
        Edges.range(Check.INDEX, 0, 7, Edges::lively, (x, n) -> x.shows(n, 4));
    }

    @About(promise = 20, words = "- `entry`: its number")
    private static void showsEntryInRange() {
        Edges.range(Check.INDEX, 0, 7, Edges::lively, (x, n) -> x.shows(0, n));
        Edges.range(Check.INDEX, 0, 149, Edges::full, (x, n) -> x.shows(0, n));
    }

    @About(promise = 20, words = "Throws `IndexOutOfBoundsException` if there is no such person or entry")
    private static void showsNothingThereYet() {
        Edges.refused("the entry 0", Check.INDEX, Followrow::new, x -> x.shows(0, 0));
        Edges.refused("the entry -1", Check.INDEX, Followrow::new, x -> x.shows(0, -1));
    }

    @About(promise = 20, words = "Throws `IndexOutOfBoundsException` if there is no such person or entry")
    private static void showsNeitherIsThere() {
        Edges.refused("shows(-1, 8)", Check.INDEX, Edges::lively, x -> x.shows(-1, 8));
        Edges.refused("shows(8, -1)", Check.INDEX, Edges::lively, x -> x.shows(8, -1));
    }

    @About(promise = 20, words = "Tells whether an entry shows in the timeline of a person.")
    private static void showsTheFirstAndTheLast() {
        Followrow x = fetching(150);
        Check.due("the first one", x.shows(0, 0), true);
        Check.due("the last one", x.shows(0, 149), true);
        Check.due("to another person", x.shows(2, 149), false);
    }

    @About(promise = 20, words = "Returns whether it does.")
    private static void showsADeletedEntryIsNoWrongEntry() {
        Followrow x = fetching(2);
        x.delete(1);
        Check.due("deleted", x.shows(0, 1), false);
        Check.due("the other one", x.shows(0, 0), true);
    }

    @About(promise = 20, words = "Returns whether it does.")
    private static void showsAtTheFloor() {
        Followrow x = atTheFloor();
        Check.due("below the floor, fetched", x.shows(0, 0), false);
        Check.due("the floor", x.shows(0, 1), false);
        Check.due("above the floor, in the row", x.shows(0, 2), true);
        Check.due("above the floor, fetched", x.shows(0, 3), true);
    }

    // ---- promise 21: next

    @About(promise = 21, words = "- `person`: 0 to 7")
    private static void nextPersonInRange() {
        Edges.range(Check.INDEX, 0, 7, Edges::lively, (x, n) -> x.next(n, 150));
    }

    @About(promise = 21, words = "- `cursor`: 0 to 150: a number")
    private static void nextCursorInRange() {
        Edges.range(Check.ARGUMENT, 0, 150, Edges::lively, (x, n) -> x.next(0, n));
        Edges.range(Check.ARGUMENT, 0, 150, Followrow::new, (x, n) -> x.next(0, n));
    }

    @About(promise = 21, words = "Throws `IllegalArgumentException` if cursor is out of range")
    private static void nextCursorOutOfRangeWhenAllWereMade() {
        Edges.outside(Check.ARGUMENT, 0, 150, Edges::full, (x, n) -> x.next(0, n));
    }

    @About(promise = 21, words = "Throws `IndexOutOfBoundsException` if there is no such person")
    private static void nextIndexBeforeArgument() {
        Edges.outside(Check.INDEX, 0, 7, Edges::lively, (x, n) -> x.next(n, -1));
        Edges.outside(Check.INDEX, 0, 7, Edges::lively, (x, n) -> x.next(n, 151));
    }

    @About(promise = 21, words = "Returns the first entry of the timeline whose number is below the cursor")
    private static void nextAtEachCursor() {
        Followrow x = fetching(150);
        for (int cursor = 1; cursor <= 150; cursor++) {
            Check.due("below " + cursor, x.next(0, cursor), cursor - 1);
        }
    }

    @About(promise = 21, words = "whose number is below the cursor")
    private static void nextOverWhatDoesNotShow() {
        Followrow x = Edges.lively();
        Check.due("from the top", x.next(0, 150), 7);
        Check.due("just above", x.next(0, 8), 7);
        Check.due("at the first one", x.next(0, 7), 5);
        Check.due("at one that does not show", x.next(0, 6), 5);
        Check.due("at the second one", x.next(0, 5), 4);
        Check.due("at the third one", x.next(0, 4), 2);
        Check.due("at the deleted one", x.next(0, 3), 2);
    }

    @About(promise = 21, words = "NONE if there is none.")
    private static void nextNoneBelowTheLowest() {
        Followrow x = Edges.lively();
        Check.due("at the lowest one", x.next(0, 2), -1);
        Check.due("at the floor", x.next(0, 1), -1);
        Check.due("at zero", x.next(0, 0), -1);
        Followrow y = fetching(1);
        Check.due("at 1", y.next(0, 1), 0);
        Check.due("at 0", y.next(0, 0), -1);
    }

    @About(promise = 21, words = "NONE if there is none.")
    private static void nextNoneInAnEmptyTimeline() {
        Followrow x = new Followrow();
        for (int person = 0; person < 8; person++) {
            Check.due("of " + person, x.next(person, 150), Followrow.NONE);
        }
        x.post(0);
        Check.due("one's own is not one's timeline's", x.next(0, 150), Followrow.NONE);
    }

    @About(promise = 21, words = "Returns the next entry of the timeline of a person below a cursor.")
    private static void nextOfTheOneAlone() {
        Followrow x = Edges.reader(1);
        x.follow(7, 2);
        x.post(1);
        x.post(2);
        Check.due("of 0", State.timeline(x, 0), "0");
        Check.due("of 7", State.timeline(x, 7), "1");
        Check.due("of 1", State.timeline(x, 1), "");
    }

    // ---- promise 22: pageEnd

    @About(promise = 22, words = "- `person`: 0 to 7")
    private static void pageEndPersonInRange() {
        Edges.range(Check.INDEX, 0, 7, Edges::lively, (x, n) -> x.pageEnd(n, 150, 1));
    }

    @About(promise = 22, words = "- `cursor`: 0 to 150: the page begins with the first entry whose number is below it")
    private static void pageEndCursorInRange() {
        Edges.range(Check.ARGUMENT, 0, 150, Edges::lively, (x, n) -> x.pageEnd(0, n, 1));
        Edges.range(Check.ARGUMENT, 0, 150, Followrow::new, (x, n) -> x.pageEnd(0, n, 20));
    }

    @About(promise = 22, words = "- `size`: 1 to 20")
    private static void pageEndSizeInRange() {
        Edges.range(Check.ARGUMENT, 1, 20, Edges::lively, (x, n) -> x.pageEnd(0, 150, n));
        Edges.range(Check.ARGUMENT, 1, 20, Followrow::new, (x, n) -> x.pageEnd(0, 0, n));
    }

    @About(promise = 22, words = "Throws `IllegalArgumentException` if cursor or size is out of range")
    private static void pageEndCursorAndSizeOutOfRange() {
        Edges.refused("both below", Check.ARGUMENT, Edges::lively, x -> x.pageEnd(0, -1, 0));
        Edges.refused("both above", Check.ARGUMENT, Edges::lively, x -> x.pageEnd(0, 151, 21));
    }

    @About(promise = 22, words = "Throws `IndexOutOfBoundsException` if there is no such person")
    private static void pageEndIndexBeforeArgument() {
        Edges.outside(Check.INDEX, 0, 7, Edges::lively, (x, n) -> x.pageEnd(n, -1, 1));
        Edges.outside(Check.INDEX, 0, 7, Edges::lively, (x, n) -> x.pageEnd(n, 151, 1));
        Edges.outside(Check.INDEX, 0, 7, Edges::lively, (x, n) -> x.pageEnd(n, 150, 0));
        Edges.outside(Check.INDEX, 0, 7, Edges::lively, (x, n) -> x.pageEnd(n, 150, 21));
    }

    @About(promise = 22, words = "the page begins with the first entry whose number is below it")
    private static void pageEndBeginsBelowTheCursor() {
        Followrow x = Edges.lively();
        Check.due("above the first one", x.pageEnd(0, 8, 1), 7);
        Check.due("at the first one", x.pageEnd(0, 7, 1), 5);
        Check.due("at one that does not show", x.pageEnd(0, 6, 2), 4);
        Check.due("at the lowest but one", x.pageEnd(0, 4, 1), 2);
        Check.due("at the top, of 150", fetching(150).pageEnd(0, 150, 1), 149);
        Check.due("below it", fetching(150).pageEnd(0, 149, 1), 148);
    }

    @About(promise = 22, words = "how many entries the page has")
    private static void pageEndOfEachSize() {
        Followrow x = fetching(150);
        for (int size = 1; size <= 20; size++) {
            Check.due("from the top, " + size, x.pageEnd(0, 150, size), 150 - size);
            Check.due("down to the lowest, " + size, x.pageEnd(0, size, size), 0);
        }
    }

    @About(promise = 22, words = "or fewer, if there are no more")
    private static void pageEndWithFewer() {
        Check.due("19 of 20", fetching(19).pageEnd(0, 150, 20), 0);
        Check.due("20 of 20", fetching(20).pageEnd(0, 150, 20), 0);
        Check.due("20 of 21", fetching(21).pageEnd(0, 150, 20), 1);
        Check.due("one of two", fetching(1).pageEnd(0, 150, 2), 0);
        Check.due("four of twenty", Edges.lively().pageEnd(0, 150, 20), 2);
    }

    @About(promise = 22, words = "NONE if the page has none.")
    private static void pageEndOfAnEmptyPage() {
        Check.due("a new object", new Followrow().pageEnd(0, 150, 20), Followrow.NONE);
        Check.due("at zero", fetching(20).pageEnd(0, 0, 20), Followrow.NONE);
        Check.due("at the lowest one", Edges.lively().pageEnd(0, 2, 20), Followrow.NONE);
        Check.due("above the lowest one", Edges.lively().pageEnd(0, 3, 20), 2);
    }

    @About(promise = 22, words = "Returns its number, which is the cursor of the next page")
    private static void pageEndLeadsToTheNextPage() {
        Followrow x = fetching(45);
        int first = x.pageEnd(0, 150, 20);
        int second = x.pageEnd(0, first, 20);
        int third = x.pageEnd(0, second, 20);
        Check.due("the ends", first + " " + second + " " + third, "25 5 0");
        Check.due("behind the last page", x.pageEnd(0, third, 20), Followrow.NONE);
    }

    @About(promise = 22, words = "Returns the last entry of a page of the timeline of a person.")
    private static void pageEndCountsWhatShowsAlone() {
        Followrow x = Edges.lively();
        Check.due("two", x.pageEnd(0, 150, 2), 5);
        Check.due("three", x.pageEnd(0, 150, 3), 4);
        Check.due("four", x.pageEnd(0, 150, 4), 2);
        Check.due("five", x.pageEnd(0, 150, 5), 2);
    }

    // ---- promise 23: length

    @About(promise = 23, words = "- `person`: 0 to 7")
    private static void lengthPersonInRange() {
        Edges.range(Check.INDEX, 0, 7, Edges::lively, (x, n) -> x.length(n));
    }

    @About(promise = 23, words = "Throws `IndexOutOfBoundsException` if there is no such person")
    private static void lengthNoSuchPerson() {
        Edges.outside(Check.INDEX, 0, 7, Followrow::new, (x, n) -> x.length(n));
        Edges.outside(Check.INDEX, 0, 7, Edges::full, (x, n) -> x.length(n));
    }

    @About(promise = 23, words = "Returns how many entries the timeline of a person has.")
    private static void lengthFromNoneToAll() {
        Followrow x = fetching(0);
        Check.due("none", x.length(0), 0);
        for (int posts = 1; posts <= 150; posts++) {
            x.post(1);
            Check.due("with " + posts, x.length(0), posts);
        }
    }

    @About(promise = 23, words = "Returns how many.")
    private static void lengthOfTheRowAlone() {
        Followrow x = Edges.full();
        Check.due("with a full row", x.length(0), 10);
        Check.due("of one's own alone", x.length(1), 0);
    }

    @About(promise = 23, words = "Returns how many.")
    private static void lengthCountsAnOriginOnce() {
        Followrow x = Edges.reader(1, 2, 3);
        x.post(1);
        x.repost(2, 0);
        x.repost(3, 1);
        x.repost(1, 2);
        Check.due("four entries of one origin", x.length(0), 1);
    }

    // ---- promise 24: lengthByMerging

    @About(promise = 24, words = "- `person`: 0 to 7")
    private static void lengthByMergingPersonInRange() {
        Edges.range(Check.INDEX, 0, 7, Edges::lively, (x, n) -> x.lengthByMerging(n));
    }

    @About(promise = 24, words = "Throws `IndexOutOfBoundsException` if there is no such person")
    private static void lengthByMergingNoSuchPerson() {
        Edges.outside(Check.INDEX, 0, 7, Followrow::new, (x, n) -> x.lengthByMerging(n));
        Edges.outside(Check.INDEX, 0, 7, Edges::full, (x, n) -> x.lengthByMerging(n));
    }

    @About(promise = 24, words = "Returns the same, by merging all entries of all authors whom the person follows")
    private static void lengthByMergingFromNoneToAll() {
        Followrow x = fetching(0);
        Check.due("none", x.lengthByMerging(0), 0);
        for (int posts = 1; posts <= 150; posts++) {
            x.post(1);
            Check.due("with " + posts, x.lengthByMerging(0), posts);
        }
    }

    @About(promise = 24, words = "without rows")
    private static void lengthByMergingKeepsToTheFloor() {
        Followrow x = Edges.full();
        Check.due("with a full row", x.lengthByMerging(0), 10);
        x.setMark(0);
        Check.due("with a large author", x.lengthByMerging(0), 10);
        Check.due("of one's own alone", x.lengthByMerging(1), 0);
        Check.due("small and large authors", atTheFloor().lengthByMerging(0), 2);
    }

    @About(promise = 24, words = "Returns how many.")
    private static void lengthByMergingHidesWhatLengthHides() {
        for (int person = 0; person < 8; person++) {
            Followrow x = Edges.lively();
            Check.due("of " + person, x.lengthByMerging(person), x.length(person));
        }
        Check.due("of 0", Edges.lively().lengthByMerging(0), 4);
    }

    @About(promise = 24, words = "Returns how many.")
    private static void lengthByMergingCountsAnOriginOnce() {
        Followrow x = Edges.reader(1, 2, 3);
        x.post(1);
        x.repost(2, 0);
        x.repost(3, 1);
        x.repost(1, 2);
        Check.due("four entries of one origin", x.lengthByMerging(0), 1);
    }

    // ---- promise 25: hasGap

    @About(promise = 25, words = "- `person`: 0 to 7")
    private static void hasGapPersonInRange() {
        Edges.range(Check.INDEX, 0, 7, Edges::lively, (x, n) -> x.hasGap(n));
    }

    @About(promise = 25, words = "Throws `IndexOutOfBoundsException` if there is no such person")
    private static void hasGapNoSuchPerson() {
        Edges.outside(Check.INDEX, 0, 7, Followrow::new, (x, n) -> x.hasGap(n));
        Edges.outside(Check.INDEX, 0, 7, Edges::full, (x, n) -> x.hasGap(n));
    }

    @About(promise = 25, words = "Returns whether there is a gap.")
    private static void hasGapNotBeforeACut() {
        Followrow x = Edges.reader(1);
        Check.due("no entries", x.hasGap(0), false);
        Edges.posts(x, 1, 10);
        Check.due("a full row", x.hasGap(0), false);
        x.post(1);
        Check.due("one more", x.hasGap(0), true);
    }

    @About(promise = 25, words = "by a number up to the floor")
    private static void hasGapAtTheFloorItself() {
        Followrow x = Edges.reader(1);
        x.setRoom(1);
        Edges.posts(x, 1, 3);
        x.delete(0);
        Check.due("the floor's entry is left", x.floorOf(0) + ", " + x.hasGap(0), "1, true");
        x.delete(1);
        Check.due("an entry above the floor is left", x.length(0) + ", " + x.hasGap(0), "1, false");
    }

    @About(promise = 25, words = "by a number up to the floor")
    private static void hasGapAtTheFirstEntry() {
        Followrow x = Edges.reader(1);
        x.setRoom(1);
        Edges.posts(x, 1, 3);
        x.delete(1);
        Check.due("the entry 0 is left", x.hasGap(0), true);
        x.delete(0);
        Check.due("none is left", x.hasGap(0), false);
    }

    @About(promise = 25, words = "an entry that is not deleted")
    private static void hasGapDeletedBeforeTheCut() {
        Followrow x = Edges.reader(1);
        x.setRoom(1);
        x.post(1);
        x.delete(0);
        Edges.posts(x, 1, 2);
        x.delete(1);
        Check.due("the floor, and no gap", x.floorOf(0) + ", " + x.hasGap(0), "1, false");
    }

    @About(promise = 25, words = "some author whom the person follows")
    private static void hasGapOfFollowedAuthorsAlone() {
        Followrow x = Edges.reader(1);
        x.setRoom(1);
        x.post(2);
        Edges.posts(x, 1, 2);
        x.delete(1);
        Check.due("of an author whom nobody follows", x.hasGap(0), false);
        x.follow(0, 2);
        Check.due("follows the author", x.hasGap(0), true);
        x.unfollow(0, 2);
        Check.due("not any more", x.hasGap(0), false);
    }

    @About(promise = 25, words = "some author whom the person follows")
    private static void hasGapOfLargeAuthorsToo() {
        Followrow x = atTheFloor();
        x.delete(1);
        Check.due("the large author's entry 0", x.hasGap(0), true);
        x.delete(0);
        Check.due("none is left", x.hasGap(0), false);
    }

    @About(promise = 25, words = "whether some author whom the person follows has an entry that is not deleted")
    private static void hasGapOfMutedAuthorsToo() {
        Followrow x = Edges.reader(1);
        x.setRoom(1);
        Edges.posts(x, 1, 2);
        x.mute(0, 1, true);
        Check.due("a muted author's", x.hasGap(0), true);
    }

    @About(promise = 25, words = "an entry that is not deleted")
    private static void hasGapOfARepostOfADeletedPost() {
        Followrow x = Edges.reader(1);
        x.setRoom(1);
        x.post(2);
        x.repost(1, 0);
        x.post(1);
        x.delete(0);
        Check.due("the repost itself is not deleted", x.hasGap(0), true);
        x.delete(1);
        Check.due("it is", x.hasGap(0), false);
    }

    @About(promise = 25, words = "Tells whether something is missing behind the end of the timeline of a person")
    private static void hasGapOfTheOneAlone() {
        Followrow x = Edges.reader(1);
        x.follow(2, 3);
        x.setRoom(1);
        Edges.posts(x, 1, 2);
        x.post(3);
        Check.due("of the one", x.hasGap(0), true);
        Check.due("of another", x.hasGap(2), false);
        Check.due("of the author", x.hasGap(1), false);
    }
}
