import java.util.Random;

/**
 * Long runs of calls, drawn from written seeds, on the program and on the model: each answer must
 * be the same. A run has 512 calls, the most that the document speaks of.
 */
public final class ModelTest {
    private static final int RUNS = 3000;
    private static final int CALLS = 512;
    private static final String[] CHANGES = {
        "follow", "unfollow", "mute", "block", "post", "repost", "delete", "setMark", "setRoom",
    };
    private static final String[] ASKS = {
        "entries", "authorOf", "originOf", "follows", "followers", "isLarge", "inRow", "rowAt",
        "floorOf", "shows", "next", "pageEnd", "length", "lengthByMerging", "hasGap",
    };
    // How often each change is drawn, one row a kind of run.
    private static final int[][] WEIGHTS = {
        {4, 2, 2, 1, 8, 6, 2, 1, 1},
        {3, 1, 1, 1, 20, 10, 1, 1, 0},
        {8, 6, 1, 1, 6, 4, 1, 3, 2},
        {6, 1, 6, 5, 6, 8, 2, 0, 0},
        {3, 1, 1, 0, 6, 20, 6, 1, 1},
    };

    public static void main(String[] args) {
        for (int seed = 0; seed < RUNS; seed++) {
            run(seed);
        }
        Check.end();
    }

    private static void run(int seed) {
        Random random = new Random(seed);
        int[] weights = WEIGHTS[seed % WEIGHTS.length];
        Followrow program = new Followrow();
        Model model = new Model();
        for (int call = 0; call < CALLS; call++) {
            String name = random.nextInt(5) < 3 ? drawn(random, weights) : ASKS[random.nextInt(ASKS.length)];
            int[] p = arguments(random, name, model.made());
            boolean flag = random.nextInt(3) > 0;
            String got = Check.answer(() -> answer(program, name, p, flag));
            String due = model.call(name, p[0], p[1], p[2], flag);
            String told = "run " + seed + ", call " + call + ": " + name + "(" + p[0] + ", " + p[1]
                    + ", " + p[2] + ", " + flag + ")";
            Check.due(told, got, due);
        }
    }

    private static String drawn(Random random, int[] weights) {
        int sum = 0;
        for (int weight : weights) {
            sum += weight;
        }
        int left = random.nextInt(sum);
        int at = 0;
        while (left >= weights[at]) {
            left -= weights[at];
            at++;
        }
        return CHANGES[at];
    }

    private static int[] arguments(Random random, String name, int made) {
        int person = person(random);
        switch (name) {
            case "delete":
            case "authorOf":
            case "originOf": return new int[] {entry(random, made), 0, 0};
            case "repost":
            case "shows": return new int[] {person, entry(random, made), 0};
            case "setMark": return new int[] {random.nextInt(11) - 1, 0, 0};
            case "setRoom":
                int most = random.nextBoolean() ? 8 : 43;
                return new int[] {random.nextInt(most) - (random.nextInt(9) == 0 ? 1 : 0), 0, 0};
            case "rowAt": return new int[] {person, random.nextInt(14) - 1, 0};
            case "next":
            case "pageEnd":
                int cursor = random.nextBoolean() ? random.nextInt(154) - 1 : Math.min(made, 150);
                return new int[] {person, cursor, random.nextInt(23)};
            default: return new int[] {person, person(random), 0};
        }
    }

    // Mostly the lower numbers, so that people and authors meet often.
    private static int person(Random random) {
        int draw = random.nextInt(60);
        if (draw == 0) {
            return -1 - random.nextInt(3);
        }
        if (draw == 1) {
            return 8 + random.nextInt(3);
        }
        return random.nextInt(random.nextBoolean() ? 4 : 8);
    }

    private static int entry(Random random, int made) {
        int draw = random.nextInt(40);
        if (draw == 0 || made == 0) {
            return random.nextBoolean() ? -1 : made;
        }
        return draw < 20 ? random.nextInt(made) : made - 1 - random.nextInt(Math.min(made, 12));
    }

    private static Object answer(Followrow x, String name, int[] p, boolean flag) {
        switch (name) {
            case "follow": return x.follow(p[0], p[1]);
            case "unfollow": return x.unfollow(p[0], p[1]);
            case "mute": return x.mute(p[0], p[1], flag);
            case "block": return x.block(p[0], p[1], flag);
            case "post": return x.post(p[0]);
            case "repost": return x.repost(p[0], p[1]);
            case "delete": return x.delete(p[0]);
            case "setMark": return x.setMark(p[0]);
            case "setRoom": return x.setRoom(p[0]);
            case "entries": return x.entries();
            case "authorOf": return x.authorOf(p[0]);
            case "originOf": return x.originOf(p[0]);
            case "follows": return x.follows(p[0], p[1]);
            case "followers": return x.followers(p[0]);
            case "isLarge": return x.isLarge(p[0]);
            case "inRow": return x.inRow(p[0]);
            case "rowAt": return x.rowAt(p[0], p[1]);
            case "floorOf": return x.floorOf(p[0]);
            case "shows": return x.shows(p[0], p[1]);
            case "next": return x.next(p[0], p[1]);
            case "pageEnd": return x.pageEnd(p[0], p[1], p[2]);
            case "length": return x.length(p[0]);
            case "lengthByMerging": return x.lengthByMerging(p[0]);
            case "hasGap": return x.hasGap(p[0]);
            default: throw new IllegalArgumentException(name);
        }
    }
}
