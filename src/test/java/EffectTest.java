import java.util.function.Supplier;

/**
 * What each call that changes something changes, as all calls that ask tell it afterwards, and
 * that it changes nothing else. The answers are worked out by hand from the document, on
 * Edges.lively.
 */
public final class EffectTest {
    public static void main(String[] args) {
        Check.run(EffectTest.class);
    }

    private static void changed(Edges.Call call, String... due) {
        Edges.changed("lively", Edges::lively, call, due);
    }

    /** Edges.lively, used by one call more. */
    private static Supplier<Followrow> livelyAfter(Edges.Call call) {
        return () -> {
            Followrow x = Edges.lively();
            call.on(x);
            return x;
        };
    }

    // ---- what Edges.lively is

    @About(words = "The timeline of a person are the entries that show")
    private static void theStart() {
        Edges.changed("from a new object", Followrow::new, x -> startOn(x),
                "entries: 0 -> 8", "deleted: none -> 3",
                "author of 0: none -> 1", "author of 1: none -> 1", "author of 2: none -> 1",
                "author of 3: none -> 1", "author of 4: none -> 2", "author of 5: none -> 3",
                "author of 6: none -> 0", "author of 7: none -> 2",
                "origin of 0: none -> 0", "origin of 1: none -> 1", "origin of 2: none -> 2",
                "origin of 3: none -> 3", "origin of 4: none -> 4", "origin of 5: none -> 0",
                "origin of 6: none -> 6", "origin of 7: none -> 6",
                "followed by 0: none -> 1 2 3", "followed by 1: none -> 0", "followed by 2: none -> 0",
                "followed by 4: none -> 2", "followed by 5: none -> 2",
                "followers of 0: 0 -> 2", "followers of 1: 0 -> 1", "followers of 2: 0 -> 3",
                "followers of 3: 0 -> 1", "large 2: false -> true",
                "row of 0: none -> 2 5", "row of 1: none -> 6", "row of 2: none -> 6",
                "floor of 0: -1 -> 1", "gap of 0: false -> true",
                "timeline of 0: none -> 7 5 4 2", "timeline of 1: none -> 6",
                "timeline of 2: none -> 6", "timeline of 5: none -> 7 4",
                "muted by 0: none -> 6", "muted by 4: none -> 2",
                "blocked by 5: none -> 3", "blocked by 7: none -> 6",
                "room: 10 -> 3", "mark: 3 -> 2");
    }

    // The calls of Edges.lively once more, on an object that is there already.
    private static Object startOn(Followrow x) {
        Edges.followed(x, 1, 0);
        Edges.followed(x, 2, 0, 4, 5);
        Edges.followed(x, 3, 0);
        Edges.followed(x, 0, 1, 2);
        x.setMark(2);
        x.setRoom(3);
        Edges.posts(x, 1, 4);
        x.post(2);
        x.repost(3, 0);
        x.post(0);
        x.repost(2, 6);
        x.delete(3);
        x.mute(0, 6, true);
        x.mute(4, 2, true);
        x.block(7, 6, true);
        x.block(5, 3, true);
        return "made";
    }

    @About(promise = 1, words = "Nobody follows anybody; no entries.")
    private static void aNewObject() {
        Edges.unchanged("two new ones", Followrow::new, x -> new Followrow());
        Edges.unchanged("a used one beside it", Followrow::new, x -> Edges.lively());
    }

    // ---- follow

    @About(promise = 2, words = "Lets a person follow an author.")
    private static void followOfASmallAuthor() {
        changed(x -> x.follow(4, 1), "followed by 4: 2 -> 1 2", "followers of 1: 1 -> 2",
                "row of 4: none -> 0 1 2", "timeline of 4: none -> 2 1 0");
    }

    @About(promise = 2, words = "Lets a person follow an author.")
    private static void followOfASmallAuthorWithMoreThanTheRoom() {
        Edges.changed("four posts", livelyAfter(x -> x.post(1)), x -> x.follow(4, 1),
                "followed by 4: 2 -> 1 2", "followers of 1: 1 -> 2", "row of 4: none -> 1 2 8",
                "floor of 4: -1 -> 0", "timeline of 4: none -> 8 2 1", "gap of 4: false -> true");
    }

    @About(promise = 2, words = "Lets a person follow an author.")
    private static void followOfALargeAuthor() {
        changed(x -> x.follow(3, 2), "followed by 3: none -> 2", "followers of 2: 3 -> 4",
                "timeline of 3: none -> 7 4");
    }

    @About(promise = 2, words = "Lets a person follow an author.")
    private static void followThatMakesLarge() {
        changed(x -> x.follow(3, 0), "followed by 3: none -> 0", "followers of 0: 2 -> 3",
                "large 0: false -> true", "row of 1: 6 -> none", "row of 2: 6 -> none",
                "timeline of 3: none -> 6");
    }

    @About(promise = 2, words = "Lets a person follow an author.")
    private static void followOfAMutedAuthor() {
        Edges.changed("muted", livelyAfter(x -> x.mute(4, 1, true)), x -> x.follow(4, 1),
                "followed by 4: 2 -> 1 2", "followers of 1: 1 -> 2", "row of 4: none -> 0 1 2");
    }

    // ---- unfollow

    @About(promise = 3, words = "Lets a person follow an author no more.")
    private static void unfollowOfASmallAuthor() {
        changed(x -> x.unfollow(0, 1), "followed by 0: 1 2 3 -> 2 3", "followers of 1: 1 -> 0",
                "row of 0: 2 5 -> 5", "timeline of 0: 7 5 4 2 -> 7 5 4", "gap of 0: true -> false");
    }

    @About(promise = 3, words = "Lets a person follow an author no more.")
    private static void unfollowThatMakesSmall() {
        changed(x -> x.unfollow(5, 2), "followed by 5: 2 -> none", "followers of 2: 3 -> 2",
                "large 2: true -> false", "row of 0: 2 5 -> 4 5 7", "floor of 0: 1 -> 2",
                "timeline of 0: 7 5 4 2 -> 7 5 4", "row of 4: none -> 4 7",
                "timeline of 5: 7 4 -> none");
    }

    @About(promise = 3, words = "Lets a person follow an author no more.")
    private static void unfollowOfALargeAuthorThatStaysLarge() {
        Edges.changed("four followers", livelyAfter(x -> x.follow(3, 2)), x -> x.unfollow(0, 2),
                "followed by 0: 1 2 3 -> 1 3", "followers of 2: 4 -> 3",
                "timeline of 0: 7 5 4 2 -> 5 2");
    }

    // ---- mute

    @About(promise = 4, words = "Lets a person mute an author, or not any more")
    private static void muteOfALargeAuthor() {
        changed(x -> x.mute(0, 2, true), "muted by 0: 6 -> 2 6", "timeline of 0: 7 5 4 2 -> 5 2");
    }

    @About(promise = 4, words = "Lets a person mute an author, or not any more")
    private static void muteOfASmallAuthorWhoIsReposted() {
        changed(x -> x.mute(0, 1, true), "muted by 0: 6 -> 1 6", "timeline of 0: 7 5 4 2 -> 7 4");
    }

    @About(promise = 4, words = "whether the person follows the author or not")
    private static void muteOfAnAuthorWhoIsReposted() {
        changed(x -> x.mute(5, 0, true), "muted by 5: none -> 0", "timeline of 5: 7 4 -> 4");
    }

    @About(promise = 4, words = "Lets a person mute an author, or not any more")
    private static void muteTakenBack() {
        changed(x -> x.mute(4, 2, false), "muted by 4: 2 -> none", "timeline of 4: none -> 7 4");
        changed(x -> x.mute(0, 6, false), "muted by 0: 6 -> none");
    }

    @About(promise = 4, words = "- `muted`: whether the author is muted then")
    private static void muteThatChangesNothing() {
        changed(x -> x.mute(0, 6, true));
        changed(x -> x.mute(0, 2, false));
    }

    // ---- block

    @About(promise = 5, words = "Lets an author block a person, or not any more.")
    private static void blockByTheFollowedOne() {
        changed(x -> x.block(1, 0, true), "blocked by 1: none -> 0",
                "followed by 0: 1 2 3 -> 2 3", "followers of 1: 1 -> 0",
                "followed by 1: 0 -> none", "followers of 0: 2 -> 1",
                "row of 0: 2 5 -> 5", "timeline of 0: 7 5 4 2 -> 7 4", "gap of 0: true -> false",
                "row of 1: 6 -> none", "timeline of 1: 6 -> none");
    }

    @About(promise = 5, words = "Lets an author block a person, or not any more.")
    private static void blockByTheFollower() {
        changed(x -> x.block(0, 1, true), "blocked by 0: none -> 1",
                "followed by 0: 1 2 3 -> 2 3", "followers of 1: 1 -> 0",
                "followed by 1: 0 -> none", "followers of 0: 2 -> 1",
                "row of 0: 2 5 -> 5", "timeline of 0: 7 5 4 2 -> 7 5 4", "gap of 0: true -> false",
                "row of 1: 6 -> none", "timeline of 1: 6 -> none");
    }

    @About(promise = 5, words = "Lets an author block a person, or not any more.")
    private static void blockThatMakesSmall() {
        changed(x -> x.block(5, 2, true), "blocked by 5: 3 -> 2 3", "followed by 5: 2 -> none",
                "followers of 2: 3 -> 2", "large 2: true -> false", "row of 0: 2 5 -> 4 5 7",
                "floor of 0: 1 -> 2", "timeline of 0: 7 5 4 2 -> 7 5 4", "row of 4: none -> 4 7",
                "timeline of 5: 7 4 -> none");
    }

    @About(promise = 5, words = "Lets an author block a person, or not any more.")
    private static void blockWithoutAFollow() {
        changed(x -> x.block(0, 5, true), "blocked by 0: none -> 5", "timeline of 5: 7 4 -> 4");
        changed(x -> x.block(5, 0, true), "blocked by 5: 3 -> 0 3");
    }

    @About(promise = 5, words = "Lets an author block a person, or not any more.")
    private static void blockTakenBack() {
        changed(x -> x.block(7, 6, false), "blocked by 7: 6 -> none");
        Edges.changed("the reposts", livelyAfter(x -> x.block(0, 5, true)), x -> x.block(0, 5, false),
                "blocked by 0: 5 -> none", "timeline of 5: 4 -> 7 4");
        Edges.changed("not the follows", livelyAfter(x -> x.block(1, 0, true)), x -> x.block(1, 0, false),
                "blocked by 1: 0 -> none", "timeline of 0: 7 4 -> 7 5 4");
    }

    @About(promise = 5, words = "- `blocked`: whether the person is blocked then")
    private static void blockThatChangesNothing() {
        changed(x -> x.block(7, 6, true));
        changed(x -> x.block(6, 7, false));
        changed(x -> x.block(2, 0, false));
    }

    // ---- post

    @About(promise = 6, words = "Makes a post.")
    private static void postOfASmallAuthor() {
        changed(x -> x.post(1), "entries: 8 -> 9", "author of 8: none -> 1", "origin of 8: none -> 8",
                "row of 0: 2 5 -> 2 5 8", "timeline of 0: 7 5 4 2 -> 8 7 5 4 2");
    }

    @About(promise = 6, words = "Makes a post.")
    private static void postIntoAFullRow() {
        Edges.changed("full", livelyAfter(x -> x.post(1)), x -> x.post(3), "entries: 9 -> 10",
                "author of 9: none -> 3", "origin of 9: none -> 9", "row of 0: 2 5 8 -> 5 8 9",
                "floor of 0: 1 -> 2", "timeline of 0: 8 7 5 4 2 -> 9 8 7 5 4");
    }

    @About(promise = 6, words = "Makes a post.")
    private static void postOfALargeAuthor() {
        changed(x -> x.post(2), "entries: 8 -> 9", "author of 8: none -> 2", "origin of 8: none -> 8",
                "timeline of 0: 7 5 4 2 -> 8 7 5 4 2", "timeline of 5: 7 4 -> 8 7 4");
    }

    @About(promise = 6, words = "Makes a post.")
    private static void postOfAnAuthorWithoutFollowers() {
        changed(x -> x.post(7), "entries: 8 -> 9", "author of 8: none -> 7", "origin of 8: none -> 8");
    }

    // ---- repost

    @About(promise = 7, words = "Makes a repost of the origin of an entry.")
    private static void repostOfASmallAuthor() {
        changed(x -> x.repost(1, 5), "entries: 8 -> 9", "author of 8: none -> 1",
                "origin of 8: none -> 0", "row of 0: 2 5 -> 2 5 8",
                "timeline of 0: 7 5 4 2 -> 8 7 4 2");
    }

    @About(promise = 7, words = "Makes a repost of the origin of an entry.")
    private static void repostOfALargeAuthor() {
        changed(x -> x.repost(2, 2), "entries: 8 -> 9", "author of 8: none -> 2",
                "origin of 8: none -> 2", "timeline of 0: 7 5 4 2 -> 8 7 5 4",
                "timeline of 5: 7 4 -> 8 7 4");
    }

    @About(promise = 7, words = "Makes a repost of the origin of an entry.")
    private static void repostOfOnesOwnPostThroughAnothersRepost() {
        changed(x -> x.repost(0, 7), "entries: 8 -> 9", "author of 8: none -> 0",
                "origin of 8: none -> 6", "row of 1: 6 -> 6 8", "row of 2: 6 -> 6 8",
                "timeline of 1: 6 -> 8", "timeline of 2: 6 -> 8");
    }

    @About(promise = 7, words = "Makes a repost of the origin of an entry.")
    private static void repostIntoAFullRow() {
        Edges.changed("full", livelyAfter(x -> x.post(1)), x -> x.repost(3, 2), "entries: 9 -> 10",
                "author of 9: none -> 3", "origin of 9: none -> 2", "row of 0: 2 5 8 -> 5 8 9",
                "floor of 0: 1 -> 2", "timeline of 0: 8 7 5 4 2 -> 9 8 7 5 4");
    }

    // ---- delete

    @About(promise = 8, words = "Deletes an entry.")
    private static void deleteOfAPostInARow() {
        changed(x -> x.delete(2), "deleted: 3 -> 2 3", "row of 0: 2 5 -> 5",
                "timeline of 0: 7 5 4 2 -> 7 5 4");
    }

    @About(promise = 8, words = "Deletes an entry.")
    private static void deleteOfARepostedPostBelowTheFloor() {
        changed(x -> x.delete(0), "deleted: 3 -> 0 3", "timeline of 0: 7 5 4 2 -> 7 4 2");
    }

    @About(promise = 8, words = "Deletes an entry.")
    private static void deleteOfALargeAuthorsRepost() {
        changed(x -> x.delete(7), "deleted: 3 -> 3 7", "timeline of 0: 7 5 4 2 -> 5 4 2",
                "timeline of 5: 7 4 -> 4");
    }

    @About(promise = 8, words = "Deletes an entry.")
    private static void deleteOfARepostedPost() {
        changed(x -> x.delete(6), "deleted: 3 -> 3 6", "row of 1: 6 -> none", "row of 2: 6 -> none",
                "timeline of 0: 7 5 4 2 -> 5 4 2", "timeline of 1: 6 -> none",
                "timeline of 2: 6 -> none", "timeline of 5: 7 4 -> 4");
    }

    @About(promise = 8, words = "Deletes an entry.")
    private static void deleteOfTheLastOneBelowTheFloor() {
        Edges.changed("0 is deleted", livelyAfter(x -> x.delete(0)), x -> x.delete(1),
                "deleted: 0 3 -> 0 1 3", "gap of 0: true -> false");
    }

    @About(promise = 8, words = "Deletes an entry.")
    private static void deleteOfTheNewestRepost() {
        Edges.changed("8 reposts 2", livelyAfter(x -> x.repost(2, 2)), x -> x.delete(8),
                "deleted: 3 -> 3 8", "timeline of 0: 8 7 5 4 -> 7 5 4 2", "timeline of 5: 8 7 4 -> 7 4");
    }

    // ---- setMark

    @About(promise = 9, words = "Sets the mark.")
    private static void setMarkHigher() {
        String[] due = {
            "mark: 2 -> 3", "large 2: true -> false", "row of 0: 2 5 -> 4 5 7", "floor of 0: 1 -> 2",
            "timeline of 0: 7 5 4 2 -> 7 5 4", "row of 4: none -> 4 7", "row of 5: none -> 4 7",
        };
        changed(x -> x.setMark(3), due);
        due[0] = "mark: 2 -> 7 or more";
        changed(x -> x.setMark(8), due);
    }

    @About(promise = 9, words = "Sets the mark.")
    private static void setMarkLower() {
        changed(x -> x.setMark(1), "mark: 2 -> 1", "large 0: false -> true", "row of 1: 6 -> none",
                "row of 2: 6 -> none");
        changed(x -> x.setMark(0), "mark: 2 -> 0", "large 0: false -> true", "large 1: false -> true",
                "large 3: false -> true", "row of 0: 2 5 -> none", "row of 1: 6 -> none",
                "row of 2: 6 -> none");
    }

    @About(promise = 9, words = "Sets the mark.")
    private static void setMarkToTheSame() {
        changed(x -> x.setMark(2));
    }

    // ---- setRoom

    @About(promise = 10, words = "Sets the room of all rows.")
    private static void setRoomSmaller() {
        changed(x -> x.setRoom(2), "room: 3 -> 2");
        changed(x -> x.setRoom(1), "room: 3 -> 1", "row of 0: 2 5 -> 5", "floor of 0: 1 -> 2",
                "timeline of 0: 7 5 4 2 -> 7 5 4");
    }

    @About(promise = 10, words = "Sets the room of all rows.")
    private static void setRoomLarger() {
        changed(x -> x.setRoom(40), "room: 3 -> 40");
        changed(x -> x.setRoom(3));
    }
}
