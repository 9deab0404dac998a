import java.util.Arrays;
import java.util.Set;
import java.util.TreeSet;
import java.util.function.Supplier;

/** What the tests of edges have in common: ranges, refusals, and objects to begin with. */
final class Edges {
    /** A call on an object. */
    interface Call {
        Object on(Followrow x);
    }

    /** A call on an object with one of its numbers left open. */
    interface NumberCall {
        Object on(Followrow x, int number);
    }

    private Edges() {
    }

    /**
     * The numbers of a range are taken, each of them; the ones just beside it, and the farthest,
     * are refused. The start is made anew for each number.
     */
    static void range(String thrown, int least, int most, Supplier<Followrow> start, NumberCall call) {
        for (int number = least; number <= most; number++) {
            int inside = number;
            Followrow x = start.get();
            String got = Check.answer(() -> call.on(x, inside));
            Check.due("with " + inside, got.startsWith("throws.") ? got : "taken", "taken");
        }
        outside(thrown, least, most, start, call);
    }

    /** The numbers just beside a range, and the farthest, are refused. */
    static void outside(String thrown, int least, int most, Supplier<Followrow> start, NumberCall call) {
        for (int number : new int[] {least - 1, most + 1, Integer.MIN_VALUE, Integer.MAX_VALUE}) {
            refused("with " + number, thrown, start, x -> call.on(x, number));
        }
    }

    /** The call throws what is due, and changes nothing. */
    static void refused(String what, String thrown, Supplier<Followrow> start, Call call) {
        Followrow x = start.get();
        Check.due(what, Check.answer(() -> call.on(x)), thrown);
        unchanged(what, start, call);
    }

    /** The call, whether it throws or not, changes nothing. */
    static void unchanged(String what, Supplier<Followrow> start, Call call) {
        changed(what, start, call);
    }

    /** The call changes what is due, topic by topic, and nothing else that any call answers. */
    static void changed(String what, Supplier<Followrow> start, Call call, String... due) {
        Set<String> got = new TreeSet<>(State.changes(State.of(start), State.of(() -> {
            Followrow x = start.get();
            Check.answer(() -> call.on(x));
            return x;
        })));
        Check.due(what + ", what it changed", got, new TreeSet<>(Arrays.asList(due)));
    }

    /** A new object whose person 0 follows each of these authors. */
    static Followrow reader(int... authors) {
        Followrow x = new Followrow();
        for (int author : authors) {
            x.follow(0, author);
        }
        return x;
    }

    static void posts(Followrow x, int author, int count) {
        for (int i = 0; i < count; i++) {
            x.post(author);
        }
    }

    /** These people follow an author. */
    static void followed(Followrow x, int author, int... people) {
        for (int person : people) {
            x.follow(person, author);
        }
    }

    /** As many people follow an author, the lowest ones first. */
    static void followedBy(Followrow x, int author, int count) {
        int left = count;
        for (int person = 0; person < 8 && left > 0; person++) {
            if (person != author) {
                x.follow(person, author);
                left--;
            }
        }
    }

    /** Everybody follows everybody else. */
    static Followrow crowd() {
        Followrow x = new Followrow();
        for (int author = 0; author < 8; author++) {
            followedBy(x, author, 7);
        }
        return x;
    }

    /** Everybody follows everybody else, nobody is large, and every row has an entry. */
    static Followrow crowdWithRows() {
        Followrow x = crowd();
        x.setMark(7);
        x.post(3);
        x.post(4);
        return x;
    }

    /** 150 entries: of author 1, whom person 0 follows, but for two reposts of author 2. */
    static Followrow full() {
        Followrow x = reader(1);
        posts(x, 1, 148);
        x.repost(2, 0);
        x.repost(2, 5);
        return x;
    }

    /**
     * Something of each kind. Author 2 is large; person 0 has the row 2 5, the floor 1, the
     * timeline 7 5 4 2 and a gap; 3 is deleted; 5 and 7 are reposts of 0 and 6; person 0 mutes 6
     * and person 4 mutes 2; author 7 blocks 6, and 5 blocks 3.
     */
    static Followrow lively() {
        Followrow x = reader(1, 2, 3);
        x.setMark(2);
        x.setRoom(3);
        followed(x, 2, 4, 5);
        followed(x, 0, 1, 2);
        posts(x, 1, 4);
        x.post(2);
        x.repost(3, 0);
        x.post(0);
        x.repost(2, 6);
        x.delete(3);
        x.mute(0, 6, true);
        x.mute(4, 2, true);
        x.block(7, 6, true);
        x.block(5, 3, true);
        return x;
    }
}
