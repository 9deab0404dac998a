/** The edges that promises 9, 10 and 14 to 19 name: settings, what is asked of people and of rows. */
public final class SettingEdgesTest {
    public static void main(String[] args) {
        Check.run(SettingEdgesTest.class);
    }

    // ---- promise 9: setMark

    @About(promise = 9, words = "- `mark`: 0 to 8")
    private static void setMarkInRange() {
        Edges.range(Check.ARGUMENT, 0, 8, Edges::lively, (x, n) -> x.setMark(n));
    }

    @About(promise = 9, words = "Throws `IllegalArgumentException` if mark is out of range")
    private static void setMarkRefusedKeepsTheMark() {
        Followrow x = new Followrow();
        Edges.followedBy(x, 0, 4);
        Check.argument("below", () -> x.setMark(-1));
        Check.due("large over 3", x.isLarge(0), true);
        x.setMark(4);
        Check.argument("above", () -> x.setMark(9));
        Check.due("small by 4", x.isLarge(0), false);
    }

    @About(promise = 9, words = "Sets the mark.")
    private static void setMarkEachMark() {
        for (int mark = 0; mark <= 8; mark++) {
            Followrow x = new Followrow();
            x.setMark(mark);
            for (int followers = 1; followers <= 7; followers++) {
                x.follow(followers, 0);
                Check.due("the mark " + mark + ", followers " + followers, x.isLarge(0), followers > mark);
            }
        }
    }

    @About(promise = 9, words = "Returns how many authors are large then.")
    private static void setMarkAnswersNoneAndAll() {
        Check.due("nobody is followed", new Followrow().setMark(0), 0);
        Followrow x = Edges.crowd();
        Check.due("all have seven followers, over 0", x.setMark(0), 8);
        Check.due("over 6", x.setMark(6), 8);
        Check.due("over 7", x.setMark(7), 0);
        Check.due("over 8", x.setMark(8), 0);
    }

    @About(promise = 9, words = "Returns how many authors are large then.")
    private static void setMarkAnswersEachNumber() {
        Followrow x = new Followrow();
        for (int author = 1; author < 8; author++) {
            Edges.followedBy(x, author, author);
        }
        for (int mark = 0; mark <= 7; mark++) {
            Check.due("over " + mark, x.setMark(mark), 7 - mark);
        }
    }

    @About(promise = 9, words = "Returns how many authors are large then.")
    private static void setMarkCountsEachAuthor() {
        for (int author = 0; author < 8; author++) {
            Followrow x = new Followrow();
            Edges.followedBy(x, author, 1);
            Check.due("the author " + author, x.setMark(0), 1);
        }
    }

    // ---- promise 10: setRoom

    @About(promise = 10, words = "- `room`: 1 to 40")
    private static void setRoomInRange() {
        Edges.range(Check.ARGUMENT, 1, 40, Edges::lively, (x, n) -> x.setRoom(n));
    }

    @About(promise = 10, words = "Throws `IllegalArgumentException` if room is out of range")
    private static void setRoomRefusedKeepsTheRoom() {
        Followrow x = Edges.reader(1);
        Edges.posts(x, 1, 4);
        x.setRoom(3);
        Check.argument("below", () -> x.setRoom(0));
        Check.argument("above", () -> x.setRoom(41));
        Check.due("in the row", x.inRow(0), 3);
        Check.due("the room that it was", x.setRoom(5), 3);
    }

    @About(promise = 10, words = "Returns the room that it was.")
    private static void setRoomAnswersWhatItWas() {
        Followrow x = new Followrow();
        Check.due("at first", x.setRoom(40), 10);
        Check.due("the most", x.setRoom(1), 40);
        Check.due("the least", x.setRoom(1), 1);
        Check.due("the same", x.setRoom(10), 1);
    }

    @About(promise = 10, words = "Sets the room of all rows")
    private static void setRoomOfEverybody() {
        Followrow x = Edges.crowd();
        x.setMark(7);
        Edges.posts(x, 0, 3);
        Edges.posts(x, 7, 3);
        x.setRoom(2);
        for (int person = 0; person < 8; person++) {
            Check.due("in the row of " + person, x.inRow(person), 2);
        }
        Check.due("the floor of 0", x.floorOf(0), 3);
        Check.due("the floor of 1", x.floorOf(1), 3);
        Check.due("the floor of 7", x.floorOf(7), 0);
    }

    @About(promise = 10, words = "- `room`: 1 to 40")
    private static void setRoomTheLeast() {
        Followrow x = Edges.reader(1);
        x.setRoom(1);
        x.post(1);
        Check.due("one", State.row(x, 0) + ", " + x.floorOf(0), "0, -1");
        x.post(1);
        Check.due("one of two", State.row(x, 0) + ", " + x.floorOf(0), "1, 0");
    }

    @About(promise = 10, words = "- `room`: 1 to 40")
    private static void setRoomTheMost() {
        Followrow x = Edges.reader(1);
        x.setRoom(40);
        Edges.posts(x, 1, 40);
        Check.due("forty", x.inRow(0) + ", " + x.rowAt(0, 0) + ", " + x.floorOf(0), "40, 0, -1");
        x.post(1);
        Check.due("forty of 41", x.inRow(0) + ", " + x.rowAt(0, 0) + ", " + x.floorOf(0), "40, 1, 0");
        Check.due("the highest one", x.rowAt(0, 39), 40);
    }

    @About(promise = 10, words = "Sets the room of all rows")
    private static void setRoomLargerBringsNothingBack() {
        Followrow x = Edges.reader(1);
        Edges.posts(x, 1, 4);
        x.setRoom(2);
        x.setRoom(40);
        Check.due("the row and the floor", State.row(x, 0) + ", " + x.floorOf(0), "2 3, 1");
        x.post(1);
        Check.due("with the next post", State.row(x, 0), "2 3 4");
    }

    // ---- promise 14: follows

    @About(promise = 14, words = "- `person`: 0 to 7")
    private static void followsPersonInRange() {
        Edges.range(Check.INDEX, 0, 7, Edges::lively, (x, n) -> x.follows(n, 1));
    }

    @About(promise = 14, words = "- `author`: 0 to 7")
    private static void followsAuthorInRange() {
        Edges.range(Check.INDEX, 0, 7, Edges::lively, (x, n) -> x.follows(1, n));
    }

    @About(promise = 14, words = "Throws `IndexOutOfBoundsException` if there is no such person or author")
    private static void followsNeitherIsThere() {
        Edges.refused("follows(-1, 8)", Check.INDEX, Edges::lively, x -> x.follows(-1, 8));
        Edges.outside(Check.INDEX, 0, 7, Edges::lively, (x, n) -> x.follows(n, n));
    }

    @About(promise = 14, words = "Tells whether a person follows an author.")
    private static void followsOneself() {
        Followrow x = Edges.crowd();
        for (int person = 0; person < 8; person++) {
            Check.due("oneself", x.follows(person, person), false);
        }
    }

    @About(promise = 14, words = "Returns whether it is so.")
    private static void followsEachPairAlone() {
        for (int person = 0; person < 8; person++) {
            for (int author = 0; author < 8; author++) {
                if (person != author) {
                    onePair(person, author);
                }
            }
        }
    }

    private static void onePair(int person, int author) {
        Followrow x = new Followrow();
        x.follow(person, author);
        int found = 0;
        for (int one = 0; one < 8; one++) {
            for (int other = 0; other < 8; other++) {
                found += x.follows(one, other) ? 1 : 0;
            }
        }
        Check.due("the pair", x.follows(person, author), true);
        Check.due("pairs in all", found, 1);
    }

    // ---- promise 15: followers

    @About(promise = 15, words = "- `author`: 0 to 7")
    private static void followersAuthorInRange() {
        Edges.range(Check.INDEX, 0, 7, Edges::lively, (x, n) -> x.followers(n));
    }

    @About(promise = 15, words = "Throws `IndexOutOfBoundsException` if there is no such author")
    private static void followersNoSuchAuthor() {
        Edges.outside(Check.INDEX, 0, 7, Followrow::new, (x, n) -> x.followers(n));
        Edges.outside(Check.INDEX, 0, 7, Edges::crowd, (x, n) -> x.followers(n));
    }

    @About(promise = 15, words = "Returns how many followers an author has.")
    private static void followersFromNoneToAll() {
        Followrow x = new Followrow();
        Check.due("none", x.followers(7), 0);
        for (int person = 0; person < 7; person++) {
            x.follow(person, 7);
            Check.due("with " + person, x.followers(7), person + 1);
        }
        for (int person = 0; person < 7; person++) {
            x.unfollow(person, 7);
            Check.due("without " + person, x.followers(7), 6 - person);
        }
    }

    @About(promise = 15, words = "Returns how many.")
    private static void followersAreNotTheFollowed() {
        Followrow x = Edges.reader(1, 2, 3);
        Check.due("of the one who follows", x.followers(0), 0);
        Check.due("of the followed one", x.followers(3), 1);
    }

    @About(promise = 15, words = "Returns how many.")
    private static void followersAfterABlock() {
        Followrow x = Edges.crowd();
        x.block(0, 7, true);
        Check.due("of the blocking one", x.followers(0), 6);
        Check.due("of the blocked one", x.followers(7), 6);
        x.block(0, 7, false);
        Check.due("taken back", x.followers(0) + x.followers(7), 12);
    }

    // ---- promise 16: isLarge

    @About(promise = 16, words = "- `author`: 0 to 7")
    private static void isLargeAuthorInRange() {
        Edges.range(Check.INDEX, 0, 7, Edges::lively, (x, n) -> x.isLarge(n));
    }

    @About(promise = 16, words = "Throws `IndexOutOfBoundsException` if there is no such author")
    private static void isLargeNoSuchAuthor() {
        Edges.outside(Check.INDEX, 0, 7, Followrow::new, (x, n) -> x.isLarge(n));
        Edges.outside(Check.INDEX, 0, 7, Edges::crowd, (x, n) -> x.isLarge(n));
    }

    @About(promise = 16, words = "Tells whether an author is large.")
    private static void isLargeOverTheMark() {
        Followrow x = new Followrow();
        Edges.followedBy(x, 7, 3);
        Check.due("three", x.isLarge(7), false);
        x.follow(6, 7);
        Check.due("four", x.isLarge(7), true);
        x.unfollow(0, 7);
        Check.due("three again", x.isLarge(7), false);
    }

    @About(promise = 16, words = "Returns whether it is so.")
    private static void isLargeByTheLeastMark() {
        Followrow x = new Followrow();
        x.setMark(0);
        Check.due("no followers", x.isLarge(1), false);
        x.follow(0, 1);
        Check.due("one", x.isLarge(1), true);
        Check.due("the follower", x.isLarge(0), false);
    }

    @About(promise = 16, words = "Returns whether it is so.")
    private static void isLargeByTheMostFollowers() {
        Followrow x = Edges.crowd();
        x.setMark(6);
        Check.due("over 6", x.isLarge(0) && x.isLarge(7), true);
        x.setMark(7);
        Check.due("over 7", x.isLarge(0) || x.isLarge(7), false);
        x.setMark(8);
        Check.due("over 8", x.isLarge(0) || x.isLarge(7), false);
    }

    @About(promise = 16, words = "Returns whether it is so.")
    private static void isLargeAfterABlock() {
        Followrow x = new Followrow();
        Edges.followedBy(x, 7, 4);
        x.block(0, 7, true);
        Check.due("the blocking one followed", x.isLarge(7), false);
        x.block(0, 7, false);
        x.follow(0, 7);
        x.block(7, 1, true);
        Check.due("the blocked one followed", x.isLarge(7), false);
    }

    // ---- promise 17: inRow

    @About(promise = 17, words = "- `person`: 0 to 7")
    private static void inRowPersonInRange() {
        Edges.range(Check.INDEX, 0, 7, Edges::lively, (x, n) -> x.inRow(n));
    }

    @About(promise = 17, words = "Throws `IndexOutOfBoundsException` if there is no such person")
    private static void inRowNoSuchPerson() {
        Edges.outside(Check.INDEX, 0, 7, Followrow::new, (x, n) -> x.inRow(n));
        Edges.outside(Check.INDEX, 0, 7, Edges::crowdWithRows, (x, n) -> x.inRow(n));
    }

    @About(promise = 17, words = "Returns how many entries the row of a person has.")
    private static void inRowFromNoneToTheRoom() {
        Followrow x = Edges.reader(1);
        Check.due("none", x.inRow(0), 0);
        for (int posts = 1; posts <= 12; posts++) {
            x.post(1);
            Check.due("of " + posts, x.inRow(0), Math.min(posts, 10));
        }
    }

    @About(promise = 17, words = "Returns how many.")
    private static void inRowEmptyAgain() {
        Followrow x = Edges.reader(1);
        Edges.posts(x, 1, 2);
        x.delete(0);
        Check.due("one is deleted", x.inRow(0), 1);
        x.delete(1);
        Check.due("all are deleted", x.inRow(0), 0);
        x.post(1);
        x.unfollow(0, 1);
        Check.due("nobody is followed", x.inRow(0), 0);
    }

    // ---- promise 18: rowAt

    @About(promise = 18, words = "- `person`: 0 to 7")
    private static void rowAtPersonInRange() {
        Edges.range(Check.INDEX, 0, 7, Edges::crowdWithRows, (x, n) -> x.rowAt(n, 0));
    }

    @About(promise = 18, words = "Throws `IndexOutOfBoundsException` if there is no such person, or the row has not so many")
    private static void rowAtIndexInRange() {
        Edges.range(Check.INDEX, 0, 1, Edges::lively, (x, n) -> x.rowAt(0, n));
        Edges.range(Check.INDEX, 0, 9, Edges::full, (x, n) -> x.rowAt(0, n));
    }

    @About(promise = 18, words = "the row has not so many")
    private static void rowAtAnEmptyRow() {
        Edges.refused("a new object", Check.INDEX, Followrow::new, x -> x.rowAt(0, 0));
        Edges.refused("below", Check.INDEX, Followrow::new, x -> x.rowAt(0, -1));
        Edges.refused("a used object", Check.INDEX, Edges::lively, x -> x.rowAt(3, 0));
    }

    @About(promise = 18, words = "the row has not so many")
    private static void rowAtAFullRow() {
        Edges.range(Check.INDEX, 0, 39, SettingEdgesTest::fortyInRow, (x, n) -> x.rowAt(0, n));
    }

    private static Followrow fortyInRow() {
        Followrow x = Edges.reader(1);
        x.setRoom(40);
        Edges.posts(x, 1, 45);
        return x;
    }

    @About(promise = 18, words = "the row has not so many")
    private static void rowAtAShrunkRow() {
        Followrow x = fortyInRow();
        x.setRoom(2);
        Check.due("the last one", x.rowAt(0, 1), 44);
        Check.index("behind it", () -> x.rowAt(0, 2));
        x.delete(44);
        Check.due("the only one", x.rowAt(0, 0), 43);
        Check.index("behind it", () -> x.rowAt(0, 1));
    }

    @About(promise = 18, words = "if there is no such person")
    private static void rowAtNeitherIsThere() {
        Edges.refused("rowAt(-1, -1)", Check.INDEX, Edges::lively, x -> x.rowAt(-1, -1));
        Edges.refused("rowAt(8, 2)", Check.INDEX, Edges::lively, x -> x.rowAt(8, 2));
    }

    @About(promise = 18, words = "- `index`: 0 for the lowest one")
    private static void rowAtLowestFirst() {
        Followrow x = fortyInRow();
        for (int index = 0; index < 40; index++) {
            Check.due("at " + index, x.rowAt(0, index), 5 + index);
        }
    }

    @About(promise = 18, words = "Returns an entry of the row of a person.")
    private static void rowAtOfTheOneAlone() {
        Followrow x = new Followrow();
        x.follow(0, 1);
        x.follow(7, 2);
        x.post(1);
        x.post(2);
        Check.due("of 0", State.row(x, 0), "0");
        Check.due("of 7", State.row(x, 7), "1");
        Check.due("of 1", State.row(x, 1), "");
    }

    @About(promise = 18, words = "Returns its number.")
    private static void rowAtOverNumbersOfOthers() {
        Followrow x = Edges.reader(1);
        x.post(2);
        x.post(1);
        x.post(0);
        x.post(1);
        x.repost(1, 0);
        Check.due("the row", State.row(x, 0), "1 3 4");
    }

    // ---- promise 19: floorOf

    @About(promise = 19, words = "- `person`: 0 to 7")
    private static void floorOfPersonInRange() {
        Edges.range(Check.INDEX, 0, 7, Edges::lively, (x, n) -> x.floorOf(n));
    }

    @About(promise = 19, words = "Throws `IndexOutOfBoundsException` if there is no such person")
    private static void floorOfNoSuchPerson() {
        Edges.outside(Check.INDEX, 0, 7, Followrow::new, (x, n) -> x.floorOf(n));
        Edges.outside(Check.INDEX, 0, 7, Edges::full, (x, n) -> x.floorOf(n));
    }

    @About(promise = 19, words = "Returns the floor of a person.")
    private static void floorOfAtFirstAndWithAFullRow() {
        Followrow x = Edges.reader(1);
        Check.due("at first", x.floorOf(0), -1);
        Edges.posts(x, 1, 10);
        Check.due("a full row", x.floorOf(0), -1);
        x.post(1);
        Check.due("one more", x.floorOf(0), 0);
        x.post(1);
        Check.due("two more", x.floorOf(0), 1);
    }

    @About(promise = 19, words = "Returns the floor.")
    private static void floorOfTheHighest() {
        Followrow x = Edges.reader(1);
        x.setRoom(1);
        Edges.posts(x, 1, 150);
        Check.due("150 entries, and room for one", x.floorOf(0) + ", " + State.row(x, 0), "148, 149");
    }

    @About(promise = 19, words = "Returns the floor.")
    private static void floorOfNeverGoesDown() {
        Followrow x = Edges.reader(1);
        Edges.posts(x, 1, 12);
        x.delete(0);
        x.delete(1);
        x.delete(11);
        Check.due("with deleted ones", x.floorOf(0), 1);
        x.setRoom(40);
        Check.due("with more room", x.floorOf(0), 1);
        x.setMark(0);
        Check.due("with a large author", x.floorOf(0), 1);
        x.unfollow(0, 1);
        Check.due("without an author", x.floorOf(0), 1);
    }
}
