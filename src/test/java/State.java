import java.util.ArrayList;
import java.util.LinkedHashMap;
import java.util.List;
import java.util.Map;
import java.util.function.Supplier;

/**
 * All that the calls answer about an object: topics such as "row of 0", and what is answered about
 * them, such as "2 5". As an object may be used for 512 calls alone, it is made anew, by the same
 * calls, each time when it has been asked enough.
 */
final class State {
    // What is left of the 512 calls for those that the start takes itself: 212.
    private static final int MOST_ASKED = 300;

    private final Supplier<Followrow> start;
    private final Map<String, String> answers = new LinkedHashMap<>();
    private Followrow object;
    private int left;

    private State(Supplier<Followrow> start) {
        this.start = start;
    }

    static Map<String, String> of(Supplier<Followrow> start) {
        State state = new State(start);
        int made = state.asked().entries();
        state.put("entries", made);
        for (int person = 0; person < 8; person++) {
            state.askPerson(person);
            state.askRow(person);
            state.askTimeline(person, made);
        }
        for (int entry = 0; entry < made; entry++) {
            state.put("author of " + entry, state.asked().authorOf(entry));
            state.put("origin of " + entry, state.asked().originOf(entry));
        }
        state.probeDeleted(made);
        state.probeMutesAndBlocks();
        state.probeRoom();
        state.probeMark();
        return state.answers;
    }

    /** What differs between two states, one topic a line, as "row of 0: 2 5 -> 2 5 8". */
    static List<String> changes(Map<String, String> before, Map<String, String> after) {
        List<String> changes = new ArrayList<>();
        for (String topic : after.keySet()) {
            String was = before.getOrDefault(topic, "none");
            String is = after.get(topic);
            if (!was.equals(is)) {
                changes.add(topic + ": " + was + " -> " + is);
            }
        }
        for (String topic : before.keySet()) {
            if (!after.containsKey(topic)) {
                changes.add(topic + ": " + before.get(topic) + " -> none");
            }
        }
        return changes;
    }

    /** The row of a person, the lowest entry first. */
    static String row(Followrow x, int person) {
        StringBuilder row = new StringBuilder();
        for (int i = 0; i < x.inRow(person); i++) {
            row.append(x.rowAt(person, i)).append(' ');
        }
        return row.toString().trim();
    }

    /** The timeline of a person, the newest entry first. */
    static String timeline(Followrow x, int person) {
        StringBuilder timeline = new StringBuilder();
        int entry = x.next(person, 150);
        while (entry != Followrow.NONE) {
            timeline.append(entry).append(' ');
            entry = x.next(person, entry);
        }
        return timeline.toString().trim();
    }

    private Followrow asked() {
        if (left == 0) {
            object = start.get();
            left = MOST_ASKED;
        }
        left--;
        return object;
    }

    private void put(String topic, Object answer) {
        String text = String.valueOf(answer);
        answers.put(topic, text.isEmpty() ? "none" : text);
    }

    private static String words(List<?> list) {
        StringBuilder words = new StringBuilder();
        for (Object one : list) {
            words.append(one).append(' ');
        }
        return words.toString().trim();
    }

    private void askPerson(int person) {
        List<Integer> followed = new ArrayList<>();
        for (int author = 0; author < 8; author++) {
            if (asked().follows(person, author)) {
                followed.add(author);
            }
        }
        put("followed by " + person, words(followed));
        put("followers of " + person, asked().followers(person));
        put("large " + person, asked().isLarge(person));
    }

    private void askRow(int person) {
        List<Integer> row = new ArrayList<>();
        int count = asked().inRow(person);
        for (int i = 0; i < count; i++) {
            row.add(asked().rowAt(person, i));
        }
        put("row of " + person, words(row));
        put("floor of " + person, asked().floorOf(person));
    }

    private void askTimeline(int person, int made) {
        List<Integer> timeline = new ArrayList<>();
        int entry = asked().next(person, 150);
        while (entry != Followrow.NONE && timeline.size() < 150) {
            timeline.add(entry);
            entry = asked().next(person, entry);
        }
        put("timeline of " + person, words(timeline));
        put("gap of " + person, asked().hasGap(person));
        List<String> others = new ArrayList<>();
        askLengths(others, person, timeline.size());
        askShows(others, person, timeline, made);
        askPages(others, person, timeline);
        put("calls that tell another timeline of " + person, words(others));
    }

    private void askLengths(List<String> others, int person, int due) {
        note(others, "length", asked().length(person), due);
        note(others, "lengthByMerging", asked().lengthByMerging(person), due);
    }

    private void askShows(List<String> others, int person, List<Integer> timeline, int made) {
        for (int entry = 0; entry < made; entry++) {
            boolean shows = asked().shows(person, entry);
            note(others, "shows(" + entry + ")", shows, timeline.contains(entry));
        }
    }

    private void askPages(List<String> others, int person, List<Integer> timeline) {
        for (int cursor = 0; cursor <= 150; cursor++) {
            int next = asked().next(person, cursor);
            note(others, "next(" + cursor + ")", next, pageEnd(timeline, cursor, 1));
            askPage(others, person, timeline, cursor, 1 + cursor % 20);
        }
        for (int size = 1; size <= 20; size++) {
            askPage(others, person, timeline, 150, size);
        }
    }

    private void askPage(List<String> others, int person, List<Integer> timeline, int cursor, int size) {
        int end = asked().pageEnd(person, cursor, size);
        note(others, "pageEnd(" + cursor + "," + size + ")", end, pageEnd(timeline, cursor, size));
    }

    private static int pageEnd(List<Integer> timeline, int cursor, int size) {
        int end = Followrow.NONE;
        int left = size;
        for (int entry : timeline) {
            if (entry < cursor && left > 0) {
                end = entry;
                left--;
            }
        }
        return end;
    }

    private static void note(List<String> others, String call, Object got, Object due) {
        if (!got.equals(due)) {
            others.add(call + "=" + got);
        }
    }

    // No call asks what is deleted, muted and blocked, and for the room and the mark: the calls
    // that set them tell.

    private void probeDeleted(int made) {
        Followrow x = start.get();
        List<Integer> deleted = new ArrayList<>();
        for (int entry = 0; entry < made; entry++) {
            int number = entry;
            if (Check.answer(() -> x.delete(number)).equals(Check.STATE)) {
                deleted.add(entry);
            }
        }
        put("deleted", words(deleted));
    }

    private void probeMutesAndBlocks() {
        Followrow x = start.get();
        for (int one = 0; one < 8; one++) {
            List<Integer> muted = new ArrayList<>();
            List<Integer> blocked = new ArrayList<>();
            for (int other = 0; other < 8; other++) {
                if (one != other && x.mute(one, other, false)) {
                    muted.add(other);
                }
                if (one != other && x.block(one, other, false)) {
                    blocked.add(other);
                }
            }
            put("muted by " + one, words(muted));
            put("blocked by " + one, words(blocked));
        }
    }

    private void probeRoom() {
        put("room", start.get().setRoom(1));
    }

    // The mark is told by the first follower too many; the marks 7 and 8 are told apart by nothing.
    private void probeMark() {
        Followrow x = start.get();
        for (int person = 1; person < 8; person++) {
            x.block(0, person, true);
            x.block(0, person, false);
            x.block(person, 0, false);
        }
        int followers = 0;
        while (followers < 7 && !x.isLarge(0)) {
            followers++;
            x.follow(followers, 0);
        }
        put("mark", x.isLarge(0) ? followers - 1 : "7 or more");
    }
}
