/** The edges that promises 1 to 5 name: a new object, follow, unfollow, mute, block. */
public final class FollowEdgesTest {
    public static void main(String[] args) {
        Check.run(FollowEdgesTest.class);
    }

    // ---- promise 1: a new object

    @About(promise = 1, words = "Nobody follows anybody")
    private static void newNobodyFollows() {
        Followrow x = new Followrow();
        for (int person = 0; person < 8; person++) {
            for (int author = 0; author < 8; author++) {
                Check.due(person + " follows " + author, x.follows(person, author), false);
            }
            Check.due("followers of " + person, x.followers(person), 0);
        }
    }

    @About(promise = 1, words = "no entries")
    private static void newNoEntries() {
        Followrow x = new Followrow();
        Check.due("entries", x.entries(), 0);
        Check.index("authorOf the first one", () -> x.authorOf(0));
        Check.index("originOf the first one", () -> x.originOf(0));
        for (int person = 0; person < 8; person++) {
            Check.due("inRow", x.inRow(person), 0);
            Check.due("length", x.length(person), 0);
        }
    }

    @About(promise = 1, words = "`Followrow()`")
    private static void newObjectsAreApart() {
        Followrow used = Edges.lively();
        Followrow x = new Followrow();
        Check.due("entries", x.entries(), 0);
        Check.due("follows", x.follows(0, 1), false);
        Check.due("was muted", x.mute(0, 6, false), false);
        Check.due("was blocked", x.block(7, 6, false), false);
        Check.due("the room", x.setRoom(1), 10);
        Check.due("the row of the used one", State.row(used, 0), "2 5");
    }

    // ---- promise 2: follow

    @About(promise = 2, words = "- `person`: 0 to 7")
    private static void followPersonInRange() {
        Edges.range(Check.INDEX, 0, 7, Followrow::new, (x, n) -> x.follow(n, n == 3 ? 4 : 3));
        Edges.outside(Check.INDEX, 0, 7, Edges::lively, (x, n) -> x.follow(n, 1));
    }

    @About(promise = 2, words = "- `author`: 0 to 7")
    private static void followAuthorInRange() {
        Edges.range(Check.INDEX, 0, 7, Followrow::new, (x, n) -> x.follow(n == 3 ? 4 : 3, n));
        Edges.outside(Check.INDEX, 0, 7, Edges::lively, (x, n) -> x.follow(0, n));
    }

    @About(promise = 2, words = "Lets a person follow an author.")
    private static void followGoesOneWay() {
        Followrow x = new Followrow();
        x.follow(0, 7);
        Check.due("0 follows 7", x.follows(0, 7), true);
        Check.due("7 follows 0", x.follows(7, 0), false);
        Check.due("7 follows 0 too", x.follow(7, 0), 1);
    }

    @About(promise = 2, words = "Returns how many followers the author has then.")
    private static void followAnswersTheFollowers() {
        Followrow x = new Followrow();
        for (int person = 0; person < 7; person++) {
            Check.due("by " + person, x.follow(person, 7), person + 1);
        }
        Check.due("another author's first one", x.follow(7, 0), 1);
    }

    @About(promise = 2, words = "Throws `IndexOutOfBoundsException` if there is no such person or author")
    private static void followNeitherIsThere() {
        Edges.refused("follow(-1, 8)", Check.INDEX, Edges::lively, x -> x.follow(-1, 8));
        Edges.refused("follow(8, -1)", Check.INDEX, Edges::lively, x -> x.follow(8, -1));
    }

    @About(promise = 2, words = "Throws `IllegalArgumentException` if both are the same")
    private static void followOneself() {
        for (int both = 0; both < 8; both++) {
            int one = both;
            Edges.refused("by " + both, Check.ARGUMENT, Edges::lively, x -> x.follow(one, one));
        }
    }

    @About(promise = 2, words = "Throws `IndexOutOfBoundsException`")
    private static void followIndexBeforeArgument() {
        Edges.outside(Check.INDEX, 0, 7, Edges::lively, (x, n) -> x.follow(n, n));
    }

    @About(promise = 2, words = "Throws `IllegalArgumentException`")
    private static void followArgumentBeforeState() {
        Followrow x = new Followrow();
        Check.argument("a block of oneself", () -> x.block(2, 2, true));
        Check.argument("following oneself then", () -> x.follow(2, 2));
        Check.argument("and once more", () -> x.follow(2, 2));
    }

    @About(promise = 2, words = "Throws `IllegalStateException` if the person follows the author already")
    private static void followAlready() {
        Edges.refused("a small author", Check.STATE, Edges::lively, x -> x.follow(0, 1));
        Edges.refused("a large author", Check.STATE, Edges::lively, x -> x.follow(0, 2));
        Edges.refused("all follow all", Check.STATE, Edges::crowd, x -> x.follow(7, 0));
    }

    @About(promise = 2, words = "the person follows the author already")
    private static void followAgainAfterUnfollow() {
        Followrow x = Edges.reader(1);
        x.unfollow(0, 1);
        Check.due("follows again", x.follow(0, 1), 1);
    }

    @About(promise = 2, words = "one of both has blocked the other one")
    private static void followTheOneWhoHasBlocked() {
        Edges.refused("6 and 7", Check.STATE, Edges::lively, x -> x.follow(6, 7));
        Edges.refused("3 and 5", Check.STATE, Edges::lively, x -> x.follow(3, 5));
    }

    @About(promise = 2, words = "one of both has blocked the other one")
    private static void followTheOneWhoIsBlocked() {
        Edges.refused("7 and 6", Check.STATE, Edges::lively, x -> x.follow(7, 6));
        Edges.refused("5 and 3", Check.STATE, Edges::lively, x -> x.follow(5, 3));
    }

    @About(promise = 2, words = "one of both has blocked the other one")
    private static void followWhenBothHaveBlocked() {
        Edges.refused("0 and 1", Check.STATE, FollowEdgesTest::bothBlock, x -> x.follow(0, 1));
        Edges.refused("1 and 0", Check.STATE, FollowEdgesTest::bothBlock, x -> x.follow(1, 0));
    }

    private static Followrow bothBlock() {
        Followrow x = new Followrow();
        x.block(0, 1, true);
        x.block(1, 0, true);
        return x;
    }

    @About(promise = 2, words = "one of both has blocked the other one")
    private static void followOthersInSpiteOfABlock() {
        Followrow x = new Followrow();
        x.block(1, 0, true);
        Check.due("the blocked one follows another", x.follow(0, 2), 1);
        Check.due("the blocking one follows another", x.follow(1, 2), 2);
        Check.due("another follows the blocking one", x.follow(2, 1), 1);
        Check.due("another follows the blocked one", x.follow(2, 0), 1);
    }

    // ---- promise 3: unfollow

    @About(promise = 3, words = "- `person`: 0 to 7")
    private static void unfollowPersonInRange() {
        Edges.range(Check.INDEX, 0, 7, Edges::crowd, (x, n) -> x.unfollow(n, n == 3 ? 4 : 3));
    }

    @About(promise = 3, words = "- `author`: 0 to 7")
    private static void unfollowAuthorInRange() {
        Edges.range(Check.INDEX, 0, 7, Edges::crowd, (x, n) -> x.unfollow(n == 3 ? 4 : 3, n));
    }

    @About(promise = 3, words = "Lets a person follow an author no more.")
    private static void unfollowGoesOneWay() {
        Followrow x = Edges.crowd();
        x.unfollow(0, 7);
        Check.due("0 follows 7", x.follows(0, 7), false);
        Check.due("7 follows 0", x.follows(7, 0), true);
        Check.due("1 follows 7", x.follows(1, 7), true);
        Check.due("0 follows 6", x.follows(0, 6), true);
    }

    @About(promise = 3, words = "Returns how many followers the author has then.")
    private static void unfollowAnswersTheFollowers() {
        Followrow x = Edges.crowd();
        for (int person = 0; person < 7; person++) {
            Check.due("by " + person, x.unfollow(person, 7), 6 - person);
        }
        Check.due("another author's", x.unfollow(7, 0), 6);
    }

    @About(promise = 3, words = "Throws `IndexOutOfBoundsException` if there is no such person or author")
    private static void unfollowNeitherIsThere() {
        Edges.refused("unfollow(-1, 8)", Check.INDEX, Edges::lively, x -> x.unfollow(-1, 8));
        Edges.refused("unfollow(8, -1)", Check.INDEX, Edges::lively, x -> x.unfollow(8, -1));
    }

    @About(promise = 3, words = "Throws `IndexOutOfBoundsException`")
    private static void unfollowIndexBeforeState() {
        Edges.outside(Check.INDEX, 0, 7, Followrow::new, (x, n) -> x.unfollow(n, 1));
        Edges.outside(Check.INDEX, 0, 7, Followrow::new, (x, n) -> x.unfollow(1, n));
        Edges.outside(Check.INDEX, 0, 7, Followrow::new, (x, n) -> x.unfollow(n, n));
    }

    @About(promise = 3, words = "Throws `IllegalStateException` if the person does not follow the author")
    private static void unfollowNeverFollowed() {
        Edges.refused("in a new object", Check.STATE, Followrow::new, x -> x.unfollow(0, 1));
        Edges.refused("in a used object", Check.STATE, Edges::lively, x -> x.unfollow(0, 4));
        Edges.refused("the other way alone", Check.STATE, Edges::lively, x -> x.unfollow(3, 0));
    }

    @About(promise = 3, words = "Throws `IllegalStateException` if the person does not follow the author")
    private static void unfollowTwice() {
        Followrow x = Edges.reader(1, 2);
        x.unfollow(0, 1);
        Check.state("once more", () -> x.unfollow(0, 1));
        Check.due("follows 2 still", x.follows(0, 2), true);
        Check.due("and can follow 1 again", x.follow(0, 1), 1);
    }

    @About(promise = 3, words = "Throws `IllegalStateException` if the person does not follow the author")
    private static void unfollowOneself() {
        for (int both = 0; both < 8; both++) {
            int one = both;
            Edges.refused("by " + both, Check.STATE, Edges::lively, x -> x.unfollow(one, one));
        }
    }

    @About(promise = 3, words = "Throws `IllegalStateException` if the person does not follow the author")
    private static void unfollowAfterABlock() {
        Followrow x = Edges.crowd();
        x.block(1, 0, true);
        Check.state("the blocked one", () -> x.unfollow(0, 1));
        Check.state("the blocking one", () -> x.unfollow(1, 0));
        Check.due("another one", x.unfollow(2, 1), 5);
    }

    // ---- promise 4: mute

    @About(promise = 4, words = "- `person`: 0 to 7")
    private static void mutePersonInRange() {
        Edges.range(Check.INDEX, 0, 7, Edges::lively, (x, n) -> x.mute(n, n == 3 ? 4 : 3, true));
        Edges.range(Check.INDEX, 0, 7, Edges::lively, (x, n) -> x.mute(n, n == 6 ? 5 : 6, false));
    }

    @About(promise = 4, words = "- `author`: 0 to 7")
    private static void muteAuthorInRange() {
        Edges.range(Check.INDEX, 0, 7, Edges::lively, (x, n) -> x.mute(n == 3 ? 4 : 3, n, true));
        Edges.range(Check.INDEX, 0, 7, Edges::lively, (x, n) -> x.mute(n == 0 ? 4 : 0, n, false));
    }

    @About(promise = 4, words = "- `muted`: whether the author is muted then")
    private static void muteSetsAndTakesBack() {
        Followrow x = Edges.reader(1);
        x.post(1);
        x.mute(0, 1, true);
        Check.due("muted", x.length(0), 0);
        x.mute(0, 1, true);
        Check.due("muted twice", x.length(0), 0);
        x.mute(0, 1, false);
        Check.due("not any more", x.length(0), 1);
        x.mute(0, 1, false);
        Check.due("taken back twice", x.length(0), 1);
    }

    @About(promise = 4, words = "Returns whether the author was.")
    private static void muteAnswersWhatWas() {
        Followrow x = new Followrow();
        Check.due("never, taken back", x.mute(0, 7, false), false);
        Check.due("never, muted", x.mute(0, 7, true), false);
        Check.due("the other way", x.mute(7, 0, false), false);
        Check.due("muted, muted again", x.mute(0, 7, true), true);
        Check.due("muted, taken back", x.mute(0, 7, false), true);
        Check.due("taken back, taken back again", x.mute(0, 7, false), false);
    }

    @About(promise = 4, words = "whether the person follows the author or not")
    private static void muteWithoutAFollow() {
        Followrow x = new Followrow();
        x.post(1);
        x.mute(0, 1, true);
        x.follow(0, 1);
        Check.due("muted before the follow", x.length(0), 0);
        x.unfollow(0, 1);
        Check.due("the mute stays without the follow", x.mute(0, 1, true), true);
        x.follow(0, 1);
        Check.due("and with the next one", x.length(0), 0);
        x.mute(0, 1, false);
        Check.due("until it is taken back", x.length(0), 1);
    }

    @About(promise = 4, words = "Throws `IndexOutOfBoundsException` if there is no such person or author")
    private static void muteNeitherIsThere() {
        Edges.refused("mute(-1, 8)", Check.INDEX, Edges::lively, x -> x.mute(-1, 8, true));
        Edges.refused("mute(8, -1)", Check.INDEX, Edges::lively, x -> x.mute(8, -1, false));
    }

    @About(promise = 4, words = "Throws `IllegalArgumentException` if both are the same")
    private static void muteOneself() {
        for (int both = 0; both < 8; both++) {
            int one = both;
            Edges.refused("by " + both, Check.ARGUMENT, Edges::lively, x -> x.mute(one, one, true));
            Edges.refused("by " + both, Check.ARGUMENT, Edges::lively, x -> x.mute(one, one, false));
        }
    }

    @About(promise = 4, words = "Throws `IndexOutOfBoundsException`")
    private static void muteIndexBeforeArgument() {
        Edges.outside(Check.INDEX, 0, 7, Edges::lively, (x, n) -> x.mute(n, n, true));
        Edges.outside(Check.INDEX, 0, 7, Edges::lively, (x, n) -> x.mute(n, n, false));
    }

    // ---- promise 5: block

    @About(promise = 5, words = "- `author`: 0 to 7")
    private static void blockAuthorInRange() {
        Edges.range(Check.INDEX, 0, 7, Edges::lively, (x, n) -> x.block(n, n == 3 ? 4 : 3, true));
        Edges.range(Check.INDEX, 0, 7, Edges::lively, (x, n) -> x.block(n, n == 6 ? 5 : 6, false));
    }

    @About(promise = 5, words = "- `person`: 0 to 7")
    private static void blockPersonInRange() {
        Edges.range(Check.INDEX, 0, 7, Edges::lively, (x, n) -> x.block(n == 3 ? 4 : 3, n, true));
        Edges.range(Check.INDEX, 0, 7, Edges::lively, (x, n) -> x.block(n == 7 ? 4 : 7, n, false));
    }

    @About(promise = 5, words = "- `blocked`: whether the person is blocked then")
    private static void blockSetsAndTakesBack() {
        Followrow x = new Followrow();
        x.block(1, 0, true);
        Check.state("blocked", () -> x.follow(0, 1));
        x.block(1, 0, true);
        Check.state("blocked twice", () -> x.follow(0, 1));
        x.block(1, 0, false);
        x.block(1, 0, false);
        Check.due("taken back, twice", x.follow(0, 1), 1);
    }

    @About(promise = 5, words = "Lets an author block a person, or not any more.")
    private static void blockTakenBackWithoutOneChangesNothing() {
        Edges.unchanged("follows stay", Edges::lively, x -> x.block(1, 0, false));
        Edges.unchanged("both ways", Edges::crowdWithRows, x -> x.block(7, 0, false));
    }

    @About(promise = 5, words = "Lets an author block a person")
    private static void blockTwiceChangesNothingMore() {
        Edges.unchanged("6 by 7", Edges::lively, x -> x.block(7, 6, true));
        Edges.unchanged("3 by 5", Edges::lively, x -> x.block(5, 3, true));
    }

    @About(promise = 5, words = "Returns whether the person was.")
    private static void blockAnswersWhatWas() {
        Followrow x = new Followrow();
        Check.due("never, taken back", x.block(7, 0, false), false);
        Check.due("never, blocked", x.block(7, 0, true), false);
        Check.due("the other way, taken back", x.block(0, 7, false), false);
        Check.due("blocked, blocked again", x.block(7, 0, true), true);
        Check.due("the other way, blocked", x.block(0, 7, true), false);
        Check.due("blocked, taken back", x.block(7, 0, false), true);
        Check.due("taken back, taken back again", x.block(7, 0, false), false);
        Check.due("the other way, still", x.block(0, 7, false), true);
    }

    @About(promise = 5, words = "Throws `IndexOutOfBoundsException` if there is no such author or person")
    private static void blockNeitherIsThere() {
        Edges.refused("block(-1, 8)", Check.INDEX, Edges::lively, x -> x.block(-1, 8, true));
        Edges.refused("block(8, -1)", Check.INDEX, Edges::lively, x -> x.block(8, -1, false));
    }

    @About(promise = 5, words = "Throws `IllegalArgumentException` if both are the same")
    private static void blockOneself() {
        for (int both = 0; both < 8; both++) {
            int one = both;
            Edges.refused("by " + both, Check.ARGUMENT, Edges::lively, x -> x.block(one, one, true));
            Edges.refused("by " + both, Check.ARGUMENT, Edges::lively, x -> x.block(one, one, false));
        }
    }

    @About(promise = 5, words = "Throws `IndexOutOfBoundsException`")
    private static void blockIndexBeforeArgument() {
        Edges.outside(Check.INDEX, 0, 7, Edges::lively, (x, n) -> x.block(n, n, true));
        Edges.outside(Check.INDEX, 0, 7, Edges::lively, (x, n) -> x.block(n, n, false));
    }
}
