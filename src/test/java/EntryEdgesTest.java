/** The edges that promises 6 to 8 and 11 to 13 name: post, repost, delete, and what is asked of entries. */
public final class EntryEdgesTest {
    public static void main(String[] args) {
        Check.run(EntryEdgesTest.class);
    }

    // ---- promise 6: post

    @About(promise = 6, words = "- `author`: 0 to 7")
    private static void postAuthorInRange() {
        Edges.range(Check.INDEX, 0, 7, Followrow::new, (x, n) -> x.post(n));
        Edges.outside(Check.INDEX, 0, 7, Edges::lively, (x, n) -> x.post(n));
    }

    @About(promise = 6, words = "Throws `IndexOutOfBoundsException` if there is no such author")
    private static void postRefusedMakesNothing() {
        Followrow x = new Followrow();
        Check.index("below", () -> x.post(-1));
        Check.index("above", () -> x.post(8));
        Check.due("entries", x.entries(), 0);
        Check.due("the number of the first one", x.post(7), 0);
    }

    @About(promise = 6, words = "Makes a post.")
    private static void postIsItsOwnOrigin() {
        Followrow x = Edges.lively();
        int post = x.post(7);
        Check.due("its author", x.authorOf(post), 7);
        Check.due("its origin", x.originOf(post), post);
    }

    @About(promise = 6, words = "Returns its number.")
    private static void postAnswersItsNumber() {
        Followrow x = new Followrow();
        for (int number = 0; number < 150; number++) {
            Check.due("number", x.post(7 - number % 8), number);
        }
    }

    @About(promise = 6, words = "Throws `IllegalStateException` if 150 entries were made")
    private static void postTheLastOne() {
        Followrow x = new Followrow();
        Edges.posts(x, 0, 149);
        Check.due("the 150th", x.post(0), 149);
        Check.state("the 151st", () -> x.post(0));
        Check.state("and again", () -> x.post(7));
        Check.due("entries", x.entries(), 150);
    }

    @About(promise = 6, words = "Throws `IllegalStateException` if 150 entries were made")
    private static void postWithoutPlaceChangesNothing() {
        Edges.refused("a followed author", Check.STATE, Edges::full, x -> x.post(1));
        Edges.refused("another author", Check.STATE, Edges::full, x -> x.post(7));
    }

    @About(promise = 6, words = "150 entries were made")
    private static void postDeletedEntriesWereMade() {
        Followrow x = Edges.full();
        x.delete(149);
        x.delete(0);
        Check.state("with deleted ones", () -> x.post(1));
        Check.due("entries", x.entries(), 150);
    }

    @About(promise = 6, words = "Throws `IndexOutOfBoundsException`")
    private static void postIndexBeforeState() {
        Edges.outside(Check.INDEX, 0, 7, Edges::full, (x, n) -> x.post(n));
    }

    // ---- promise 7: repost

    @About(promise = 7, words = "- `author`: 0 to 7")
    private static void repostAuthorInRange() {
        Edges.range(Check.INDEX, 0, 7, Edges::lively, (x, n) -> x.repost(n, 0));
    }

    @About(promise = 7, words = "- `entry`: its number")
    private static void repostEntryInRange() {
        Edges.range(Check.INDEX, 0, 2, EntryEdgesTest::threeEntries, (x, n) -> x.repost(0, n));
    }

    private static Followrow threeEntries() {
        Followrow x = Edges.reader(1, 2);
        Edges.posts(x, 1, 2);
        x.repost(2, 1);
        return x;
    }

    @About(promise = 7, words = "Throws `IndexOutOfBoundsException` if there is no such author or entry")
    private static void repostNothingThereYet() {
        Edges.refused("the entry 0", Check.INDEX, Followrow::new, x -> x.repost(0, 0));
        Edges.refused("the entry 149", Check.INDEX, Followrow::new, x -> x.repost(7, 149));
    }

    @About(promise = 7, words = "Throws `IndexOutOfBoundsException` if there is no such author or entry")
    private static void repostNeitherIsThere() {
        Edges.refused("repost(-1, 8)", Check.INDEX, Edges::lively, x -> x.repost(-1, 8));
        Edges.refused("repost(8, -1)", Check.INDEX, Edges::lively, x -> x.repost(8, -1));
    }

    @About(promise = 7, words = "Makes a repost of the origin of an entry.")
    private static void repostOfARepost() {
        Followrow x = threeEntries();
        int repost = x.repost(3, 2);
        Check.due("its author", x.authorOf(repost), 3);
        Check.due("its origin", x.originOf(repost), 1);
        int next = x.repost(4, repost);
        Check.due("the next one's origin", x.originOf(next), 1);
    }

    @About(promise = 7, words = "Makes a repost of the origin of an entry.")
    private static void repostOfOnesOwn() {
        Followrow x = threeEntries();
        Check.due("of one's own post", x.repost(1, 0), 3);
        Check.due("of one's own repost", x.repost(1, 3), 4);
        Check.due("the origin", x.originOf(4), 0);
    }

    @About(promise = 7, words = "Returns the number of the repost.")
    private static void repostAnswersItsNumber() {
        Followrow x = new Followrow();
        x.post(0);
        for (int number = 1; number < 150; number++) {
            Check.due("number", x.repost(number % 8, number - 1), number);
        }
    }

    @About(promise = 7, words = "Throws `IllegalStateException` if 150 entries were made")
    private static void repostTheLastOne() {
        Followrow x = new Followrow();
        Edges.posts(x, 0, 149);
        Check.due("the 150th", x.repost(1, 148), 149);
        Check.state("the 151st, of a post", () -> x.repost(1, 0));
        Check.state("the 151st, of a repost", () -> x.repost(1, 149));
        Check.due("entries", x.entries(), 150);
    }

    @About(promise = 7, words = "Throws `IllegalStateException` if 150 entries were made")
    private static void repostWithoutPlaceChangesNothing() {
        Edges.refused("of a post", Check.STATE, Edges::full, x -> x.repost(1, 147));
        Edges.refused("of a repost", Check.STATE, Edges::full, x -> x.repost(0, 149));
    }

    @About(promise = 7, words = "the entry or its origin is deleted")
    private static void repostOfADeletedPost() {
        Edges.refused("of 3", Check.STATE, Edges::lively, x -> x.repost(2, 3));
        Edges.refused("by its author", Check.STATE, Edges::lively, x -> x.repost(1, 3));
    }

    @About(promise = 7, words = "the entry or its origin is deleted")
    private static void repostOfADeletedRepostOfAPostThatStands() {
        Edges.refused("of 2", Check.STATE, () -> deletedAmongThree(2), x -> x.repost(0, 2));
        Followrow x = deletedAmongThree(2);
        Check.due("its origin can be reposted", x.repost(0, 1), 3);
    }

    @About(promise = 7, words = "the entry or its origin is deleted")
    private static void repostOfARepostOfADeletedPost() {
        Edges.refused("of 2", Check.STATE, () -> deletedAmongThree(1), x -> x.repost(0, 2));
        Followrow x = deletedAmongThree(1);
        Check.due("another post can be reposted", x.repost(0, 0), 3);
    }

    private static Followrow deletedAmongThree(int entry) {
        Followrow x = threeEntries();
        x.delete(entry);
        return x;
    }

    @About(promise = 7, words = "the author of the origin has blocked the author")
    private static void repostBlockedByTheAuthorOfThePost() {
        Edges.refused("of the post", Check.STATE, () -> blocksAmongThree(1, 4), x -> x.repost(4, 1));
        Edges.refused("of its repost", Check.STATE, () -> blocksAmongThree(1, 4), x -> x.repost(4, 2));
    }

    @About(promise = 7, words = "the author of the origin has blocked the author")
    private static void repostBlockedByTheReposterAlone() {
        Check.due("taken", blocksAmongThree(2, 4).repost(4, 2), 3);
    }

    @About(promise = 7, words = "the author of the origin has blocked the author")
    private static void repostByTheOneWhoBlocksTheAuthorOfTheOrigin() {
        Check.due("of the post", blocksAmongThree(4, 1).repost(4, 1), 3);
        Check.due("of its repost", blocksAmongThree(4, 1).repost(4, 2), 3);
    }

    @About(promise = 7, words = "the author of the origin has blocked the author")
    private static void repostWhenTheBlockIsTakenBack() {
        Followrow x = blocksAmongThree(1, 4);
        x.block(1, 4, false);
        Check.due("taken", x.repost(4, 2), 3);
    }

    @About(promise = 7, words = "the author of the origin has blocked the author")
    private static void repostOfAMutedAuthor() {
        Followrow x = threeEntries();
        x.mute(4, 1, true);
        x.mute(1, 4, true);
        Check.due("taken", x.repost(4, 1), 3);
    }

    private static Followrow blocksAmongThree(int author, int person) {
        Followrow x = threeEntries();
        x.block(author, person, true);
        return x;
    }

    @About(promise = 7, words = "Throws `IndexOutOfBoundsException`")
    private static void repostIndexBeforeNoPlace() {
        Edges.outside(Check.INDEX, 0, 7, Edges::full, (x, n) -> x.repost(n, 0));
        Edges.outside(Check.INDEX, 0, 149, Edges::full, (x, n) -> x.repost(0, n));
    }

    @About(promise = 7, words = "Throws `IndexOutOfBoundsException`")
    private static void repostIndexBeforeDeleted() {
        Edges.outside(Check.INDEX, 0, 7, Edges::lively, (x, n) -> x.repost(n, 3));
    }

    // ---- promise 8: delete

    @About(promise = 8, words = "- `entry`: its number")
    private static void deleteEntryInRange() {
        Edges.range(Check.INDEX, 0, 2, EntryEdgesTest::threeEntries, (x, n) -> x.delete(n));
    }

    @About(promise = 8, words = "Throws `IndexOutOfBoundsException` if there is no such entry")
    private static void deleteNothingThereYet() {
        Edges.refused("the entry 0", Check.INDEX, Followrow::new, x -> x.delete(0));
        Edges.outside(Check.INDEX, 0, 7, Edges::lively, (x, n) -> x.delete(n));
    }

    @About(promise = 8, words = "Throws `IndexOutOfBoundsException` if there is no such entry")
    private static void deleteWhenAllWereMade() {
        Followrow x = Edges.full();
        Check.due("the last one", x.delete(149), 0);
        Edges.outside(Check.INDEX, 0, 149, Edges::full, (y, n) -> y.delete(n));
    }

    @About(promise = 8, words = "Deletes an entry.")
    private static void deleteTheOneAlone() {
        Followrow x = threeEntries();
        x.delete(1);
        Check.due("deleted", x.shows(0, 1), false);
        Check.due("the other one", x.shows(0, 0), true);
        Check.state("deleted", () -> x.delete(1));
        Check.due("the other ones", x.delete(0) + x.delete(2), 0);
    }

    @About(promise = 8, words = "Returns how many entries are not deleted whose origin it is, if it is a post")
    private static void deleteAPostWithoutReposts() {
        Followrow x = threeEntries();
        Check.due("a post", x.delete(0), 0);
        Followrow y = new Followrow();
        y.post(0);
        Check.due("the only one", y.delete(0), 0);
    }

    @About(promise = 8, words = "Returns how many entries are not deleted whose origin it is, if it is a post")
    private static void deleteAPostWithReposts() {
        Followrow x = threeEntries();
        x.repost(3, 1);
        x.repost(3, 2);
        x.repost(4, 0);
        Check.due("reposts, and reposts of reposts", x.delete(1), 3);
    }

    @About(promise = 8, words = "how many entries are not deleted")
    private static void deleteAPostWithDeletedReposts() {
        Followrow x = threeEntries();
        x.repost(3, 1);
        x.delete(2);
        Check.due("one of two reposts is left", x.delete(1), 1);
        Followrow y = threeEntries();
        y.delete(2);
        Check.due("the only repost is deleted", y.delete(1), 0);
    }

    @About(promise = 8, words = "how many entries are not deleted whose origin it is")
    private static void deleteAPostWithTheMostReposts() {
        Followrow x = new Followrow();
        x.post(0);
        for (int i = 1; i < 150; i++) {
            x.repost(i % 8, i - 1);
        }
        Check.due("149 reposts", x.delete(0), 149);
    }

    @About(promise = 8, words = "0 for a repost")
    private static void deleteARepost() {
        Followrow x = threeEntries();
        x.repost(3, 2);
        Check.due("a repost that was reposted", x.delete(2), 0);
        Check.due("the repost's repost", x.delete(3), 0);
        Check.due("the post stands", x.shows(0, 1), true);
    }

    @About(promise = 8, words = "0 for a repost")
    private static void deleteARepostOfADeletedPost() {
        Followrow x = threeEntries();
        x.repost(3, 1);
        x.delete(1);
        Check.due("one of two", x.delete(2), 0);
        Check.due("the other one", x.delete(3), 0);
    }

    @About(promise = 8, words = "Throws `IllegalStateException` if it is deleted")
    private static void deleteTwice() {
        Edges.refused("a post", Check.STATE, () -> deletedAmongThree(1), x -> x.delete(1));
        Edges.refused("a repost", Check.STATE, () -> deletedAmongThree(2), x -> x.delete(2));
        Edges.refused("in a used object", Check.STATE, Edges::lively, x -> x.delete(3));
    }

    // ---- promise 11: entries

    @About(promise = 11, words = "Returns how many entries were made.")
    private static void entriesFromNoneToAll() {
        Followrow x = new Followrow();
        Check.due("none", x.entries(), 0);
        for (int made = 1; made <= 150; made++) {
            if (made % 2 == 1) {
                x.post(0);
            } else {
                x.repost(1, made - 2);
            }
            Check.due("after " + made, x.entries(), made);
        }
    }

    @About(promise = 11, words = "were made")
    private static void entriesCountDeletedOnes() {
        Followrow x = threeEntries();
        x.delete(2);
        x.delete(0);
        Check.due("with deleted ones", x.entries(), 3);
        x.delete(1);
        Check.due("all deleted", x.entries(), 3);
    }

    @About(promise = 11, words = "were made")
    private static void entriesDoNotCountRefusedOnes() {
        Followrow x = deletedAmongThree(1);
        Check.index("a post", () -> x.post(8));
        Check.state("a repost", () -> x.repost(0, 2));
        Check.due("without refused ones", x.entries(), 3);
    }

    // ---- promise 12: authorOf

    @About(promise = 12, words = "- `entry`: its number")
    private static void authorOfEntryInRange() {
        Edges.range(Check.INDEX, 0, 7, Edges::lively, (x, n) -> x.authorOf(n));
        Edges.range(Check.INDEX, 0, 149, Edges::full, (x, n) -> x.authorOf(n));
    }

    @About(promise = 12, words = "Throws `IndexOutOfBoundsException` if there is no such entry")
    private static void authorOfNothingThereYet() {
        Edges.refused("the entry 0", Check.INDEX, Followrow::new, x -> x.authorOf(0));
    }

    @About(promise = 12, words = "Returns the author of an entry.")
    private static void authorOfARepostIsTheReposter() {
        Followrow x = threeEntries();
        Check.due("a post", x.authorOf(1), 1);
        Check.due("its repost", x.authorOf(2), 2);
    }

    @About(promise = 12, words = "Returns the author.")
    private static void authorOfEachAuthor() {
        Followrow x = new Followrow();
        for (int author = 0; author < 8; author++) {
            Check.due("of " + author, x.authorOf(x.post(author)), author);
        }
    }

    @About(promise = 12, words = "if there is no such entry")
    private static void authorOfADeletedEntry() {
        Check.due("a post", deletedAmongThree(1).authorOf(1), 1);
        Check.due("a repost", deletedAmongThree(2).authorOf(2), 2);
    }

    // ---- promise 13: originOf

    @About(promise = 13, words = "- `entry`: its number")
    private static void originOfEntryInRange() {
        Edges.range(Check.INDEX, 0, 7, Edges::lively, (x, n) -> x.originOf(n));
        Edges.range(Check.INDEX, 0, 149, Edges::full, (x, n) -> x.originOf(n));
    }

    @About(promise = 13, words = "Throws `IndexOutOfBoundsException` if there is no such entry")
    private static void originOfNothingThereYet() {
        Edges.refused("the entry 0", Check.INDEX, Followrow::new, x -> x.originOf(0));
    }

    @About(promise = 13, words = "Returns the origin of an entry.")
    private static void originOfAPostIsThePost() {
        Followrow x = Edges.full();
        Check.due("the first one", x.originOf(0), 0);
        Check.due("the last post", x.originOf(147), 147);
    }

    @About(promise = 13, words = "Returns the number of the post.")
    private static void originOfARepostIsThePost() {
        Followrow x = Edges.full();
        Check.due("a repost of the first one", x.originOf(148), 0);
        Check.due("the last entry", x.originOf(149), 5);
    }

    @About(promise = 13, words = "if there is no such entry")
    private static void originOfADeletedEntry() {
        Check.due("a deleted post", deletedAmongThree(1).originOf(1), 1);
        Check.due("the repost of a deleted post", deletedAmongThree(1).originOf(2), 1);
        Check.due("a deleted repost", deletedAmongThree(2).originOf(2), 1);
    }
}
