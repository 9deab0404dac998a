import java.util.ArrayList;
import java.util.Collections;
import java.util.HashMap;
import java.util.HashSet;
import java.util.List;
import java.util.Map;
import java.util.Set;

/**
 * The document's words once more, as plainly as the Java library lets one write them. It shares
 * nothing with the program. A call answers as text; an exception answers throws.ITSNAME.
 */
final class Model {
    private static final String INDEX = "throws.IndexOutOfBoundsException";
    private static final String ARGUMENT = "throws.IllegalArgumentException";
    private static final String STATE = "throws.IllegalStateException";

    private final Set<List<Integer>> follows = new HashSet<>();
    private final Set<List<Integer>> mutes = new HashSet<>();
    private final Set<List<Integer>> blocks = new HashSet<>();
    private final List<Integer> authors = new ArrayList<>();
    private final List<Integer> origins = new ArrayList<>();
    private final Set<Integer> deleted = new HashSet<>();
    private final int[] floors = {-1, -1, -1, -1, -1, -1, -1, -1};
    private int mark = 3;
    private int room = 10;

    /** The answer of a call by its name, its arguments and its flag. */
    String call(String name, int a, int b, int c, boolean flag) {
        switch (name) {
            case "follow": return follow(a, b);
            case "unfollow": return unfollow(a, b);
            case "mute": return mute(a, b, flag);
            case "block": return block(a, b, flag);
            case "post": return post(a);
            case "repost": return repost(a, b);
            case "delete": return delete(a);
            case "setMark": return setMark(a);
            case "setRoom": return setRoom(a);
            case "entries": return "" + authors.size();
            case "authorOf": return noEntry(a) ? INDEX : "" + authors.get(a);
            case "originOf": return noEntry(a) ? INDEX : "" + origins.get(a);
            case "follows": return noPair(a, b) ? INDEX : "" + follows.contains(List.of(a, b));
            case "followers": return noPerson(a) ? INDEX : "" + followersOf(a);
            case "isLarge": return noPerson(a) ? INDEX : "" + large(a);
            case "inRow": return noPerson(a) ? INDEX : "" + row(a).size();
            case "rowAt": return rowAt(a, b);
            case "floorOf": return noPerson(a) ? INDEX : "" + floors[a];
            case "shows":
                return noPerson(a) || noEntry(b) ? INDEX : "" + timeline(a).contains(b);
            case "next": return next(a, b);
            case "pageEnd": return pageEnd(a, b, c);
            case "length":
            case "lengthByMerging": return noPerson(a) ? INDEX : "" + timeline(a).size();
            case "hasGap": return noPerson(a) ? INDEX : "" + gap(a);
            default: throw new IllegalArgumentException(name);
        }
    }

    int made() {
        return authors.size();
    }

    private static boolean noPerson(int person) {
        return person < 0 || person > 7;
    }

    private static boolean noPair(int person, int author) {
        return noPerson(person) || noPerson(author);
    }

    private boolean noEntry(int entry) {
        return entry < 0 || entry >= authors.size();
    }

    private String follow(int person, int author) {
        if (noPair(person, author)) {
            return INDEX;
        }
        if (person == author) {
            return ARGUMENT;
        }
        if (follows.contains(List.of(person, author)) || blocks.contains(List.of(person, author))
                || blocks.contains(List.of(author, person))) {
            return STATE;
        }
        follows.add(List.of(person, author));
        cut();
        return "" + followersOf(author);
    }

    private String unfollow(int person, int author) {
        if (noPair(person, author)) {
            return INDEX;
        }
        if (!follows.remove(List.of(person, author))) {
            return STATE;
        }
        cut();
        return "" + followersOf(author);
    }

    private String mute(int person, int author, boolean muted) {
        if (noPair(person, author)) {
            return INDEX;
        }
        if (person == author) {
            return ARGUMENT;
        }
        boolean was = muted ? !mutes.add(List.of(person, author)) : mutes.remove(List.of(person, author));
        cut();
        return "" + was;
    }

    private String block(int author, int person, boolean blocked) {
        if (noPair(person, author)) {
            return INDEX;
        }
        if (person == author) {
            return ARGUMENT;
        }
        boolean was = blocks.contains(List.of(author, person));
        if (blocked) {
            blocks.add(List.of(author, person));
            follows.remove(List.of(author, person));
            follows.remove(List.of(person, author));
        } else {
            blocks.remove(List.of(author, person));
        }
        cut();
        return "" + was;
    }

    private String post(int author) {
        if (noPerson(author)) {
            return INDEX;
        }
        return authors.size() == 150 ? STATE : make(author, authors.size());
    }

    private String repost(int author, int entry) {
        if (noPerson(author) || noEntry(entry)) {
            return INDEX;
        }
        int origin = origins.get(entry);
        boolean refused = authors.size() == 150 || deleted.contains(entry)
                || deleted.contains(origin) || blocks.contains(List.of(authors.get(origin), author));
        return refused ? STATE : make(author, origin);
    }

    private String make(int author, int origin) {
        authors.add(author);
        origins.add(origin);
        cut();
        return "" + (authors.size() - 1);
    }

    private String delete(int entry) {
        if (noEntry(entry)) {
            return INDEX;
        }
        if (!deleted.add(entry)) {
            return STATE;
        }
        cut();
        int left = 0;
        for (int other = 0; other < authors.size(); other++) {
            if (!deleted.contains(other) && origins.get(other) == entry) {
                left++;
            }
        }
        return "" + left;
    }

    private String setMark(int value) {
        if (value < 0 || value > 8) {
            return ARGUMENT;
        }
        mark = value;
        cut();
        int count = 0;
        for (int author = 0; author < 8; author++) {
            count += large(author) ? 1 : 0;
        }
        return "" + count;
    }

    private String setRoom(int value) {
        if (value < 1 || value > 40) {
            return ARGUMENT;
        }
        int was = room;
        room = value;
        cut();
        return "" + was;
    }

    private int followersOf(int author) {
        int count = 0;
        for (List<Integer> pair : follows) {
            count += pair.get(1) == author ? 1 : 0;
        }
        return count;
    }

    private boolean large(int author) {
        return followersOf(author) > mark;
    }

    private List<Integer> row(int person) {
        List<Integer> row = new ArrayList<>();
        for (int entry = 0; entry < authors.size(); entry++) {
            int author = authors.get(entry);
            if (entry > floors[person] && !deleted.contains(entry)
                    && follows.contains(List.of(person, author)) && !large(author)) {
                row.add(entry);
            }
        }
        return row;
    }

    private void cut() {
        for (int person = 0; person < 8; person++) {
            List<Integer> row = row(person);
            while (row.size() > room) {
                floors[person] = row.remove(0);
            }
        }
    }

    private String rowAt(int person, int index) {
        if (noPerson(person)) {
            return INDEX;
        }
        List<Integer> row = row(person);
        return index < 0 || index >= row.size() ? INDEX : "" + row.get(index);
    }

    private boolean isDue(int person, int entry) {
        int author = authors.get(entry);
        int origin = origins.get(entry);
        int first = authors.get(origin);
        return follows.contains(List.of(person, author)) && !mutes.contains(List.of(person, author))
                && entry > floors[person] && !deleted.contains(entry) && !deleted.contains(origin)
                && !mutes.contains(List.of(person, first)) && !blocks.contains(List.of(first, person));
    }

    private List<Integer> timeline(int person) {
        Map<Integer, Integer> greatest = new HashMap<>();
        for (int entry = 0; entry < authors.size(); entry++) {
            if (isDue(person, entry)) {
                greatest.put(origins.get(entry), entry);
            }
        }
        List<Integer> timeline = new ArrayList<>(greatest.values());
        timeline.sort(Collections.reverseOrder());
        return timeline;
    }

    private String next(int person, int cursor) {
        return pageEnd(person, cursor, 1);
    }

    private String pageEnd(int person, int cursor, int size) {
        if (noPerson(person)) {
            return INDEX;
        }
        if (cursor < 0 || cursor > 150 || size < 1 || size > 20) {
            return ARGUMENT;
        }
        int last = -1;
        int seen = 0;
        for (int entry : timeline(person)) {
            if (entry < cursor && seen < size) {
                last = entry;
                seen++;
            }
        }
        return "" + last;
    }

    private boolean gap(int person) {
        for (int entry = 0; entry < authors.size(); entry++) {
            if (entry <= floors[person] && !deleted.contains(entry)
                    && follows.contains(List.of(person, authors.get(entry)))) {
                return true;
            }
        }
        return false;
    }
}
