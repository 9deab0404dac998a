import java.util.function.Supplier;

/**
 * All that the calls answer about an object, one answer a line. As an object may be used for 512
 * calls alone, it is made anew, by the same calls, each time when it has been asked enough.
 */
final class State {
    // What is left of the 512 calls for those that the start takes itself: 212.
    private static final int MOST_ASKED = 300;

    private final Supplier<Followrow> start;
    private final StringBuilder text = new StringBuilder();
    private Followrow object;
    private int left;

    private State(Supplier<Followrow> start) {
        this.start = start;
    }

    static String of(Supplier<Followrow> start) {
        State state = new State(start);
        int made = state.asked().entries();
        state.put("entries " + made);
        for (int person = 0; person < 8; person++) {
            state.askPerson(person);
            state.askRow(person);
            state.askTimeline(person, made);
        }
        for (int entry = 0; entry < made; entry++) {
            state.put("authorOf " + entry + ": " + state.asked().authorOf(entry));
            state.put("originOf " + entry + ": " + state.asked().originOf(entry));
        }
        state.probeMutesAndBlocks();
        state.probeRoom();
        state.probeMark();
        return state.text.toString();
    }

    /** The first line in which two states differ, or "nothing". */
    static String difference(String before, String after) {
        String[] was = before.split("\n");
        String[] is = after.split("\n");
        for (int i = 0; i < Math.max(was.length, is.length); i++) {
            String one = i < was.length ? was[i] : "no line";
            String other = i < is.length ? is[i] : "no line";
            if (!one.equals(other)) {
                return one + " -> " + other;
            }
        }
        return "nothing";
    }

    /** The row of a person, the lowest entry first. */
    static String row(Followrow x, int person) {
        StringBuilder row = new StringBuilder();
        for (int i = 0; i < x.inRow(person); i++) {
            row.append(x.rowAt(person, i)).append(' ');
        }
        return row.toString().trim();
    }

    /** The timeline of a person, the newest entry first. */
    static String timeline(Followrow x, int person) {
        StringBuilder timeline = new StringBuilder();
        int entry = x.next(person, 150);
        while (entry != Followrow.NONE) {
            timeline.append(entry).append(' ');
            entry = x.next(person, entry);
        }
        return timeline.toString().trim();
    }

    private Followrow asked() {
        if (left == 0) {
            object = start.get();
            left = MOST_ASKED;
        }
        left--;
        return object;
    }

    private void put(String line) {
        text.append(line).append('\n');
    }

    private void askPerson(int person) {
        for (int author = 0; author < 8; author++) {
            put("follows " + person + " " + author + ": " + asked().follows(person, author));
        }
        put("followers " + person + ": " + asked().followers(person));
        put("isLarge " + person + ": " + asked().isLarge(person));
    }

    private void askRow(int person) {
        int count = asked().inRow(person);
        put("inRow " + person + ": " + count);
        put("floorOf " + person + ": " + asked().floorOf(person));
        for (int i = 0; i < count; i++) {
            put("rowAt " + person + " " + i + ": " + asked().rowAt(person, i));
        }
    }

    private void askTimeline(int person, int made) {
        put("length " + person + ": " + asked().length(person));
        put("lengthByMerging " + person + ": " + asked().lengthByMerging(person));
        put("hasGap " + person + ": " + asked().hasGap(person));
        for (int entry = 0; entry < made; entry++) {
            put("shows " + person + " " + entry + ": " + asked().shows(person, entry));
        }
        for (int cursor = 0; cursor <= 150; cursor++) {
            put("next " + person + " " + cursor + ": " + asked().next(person, cursor));
        }
        for (int size = 1; size <= 20; size++) {
            put("pageEnd " + person + " " + size + ": " + asked().pageEnd(person, 150, size));
        }
    }

    // No call asks for mutes, blocks, the mark and the room: those that set them tell.

    private void probeMutesAndBlocks() {
        Followrow x = start.get();
        for (int one = 0; one < 8; one++) {
            for (int other = 0; other < 8; other++) {
                if (one != other) {
                    put("muted " + one + " " + other + ": " + x.mute(one, other, false));
                    put("blocked " + one + " " + other + ": " + x.block(one, other, false));
                }
            }
        }
    }

    private void probeRoom() {
        put("room: " + start.get().setRoom(1));
    }

    private void probeMark() {
        Followrow x = start.get();
        for (int person = 1; person < 8; person++) {
            x.block(0, person, true);
            x.block(0, person, false);
            x.block(person, 0, false);
        }
        for (int person = 1; person < 8; person++) {
            x.follow(person, 0);
            put("large by " + person + ": " + x.isLarge(0));
        }
    }
}
