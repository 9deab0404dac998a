/**
 * A timeline service: people follow authors, posts of small authors are pushed into the rows of
 * their followers, those of large ones are fetched when a timeline is read.
 *
 * <p>A row, with its floor, is settled behind each call that could change it; a timeline is put
 * together anew for each call that asks for it. The accessors of the classes inside test every
 * index that they are given, so that no caller of theirs can make the machine throw.
 */
public final class Followrow {
    /** There is none. */
    public static final int NONE = -1;

    private static final int PEOPLE = 8;
    private static final int MOST_ENTRIES = 150;
    private static final int MOST_ROOM = 40;
    private static final int MOST_ON_PAGE = 20;
    private static final int FIRST_MARK = 3;
    private static final int FIRST_ROOM = 10;
    private static final int FIRST_FLOOR = -1;

    private final Relation following = new Relation();
    private final Relation muting = new Relation();
    private final Relation blocking = new Relation();
    private final Ledger ledger = new Ledger();
    private final Row[] rows = new Row[PEOPLE];
    // Kept for its arrays alone: each reading begins with an empty timeline.
    private final Timeline timeline = new Timeline();
    private int mark = FIRST_MARK;
    private int room = FIRST_ROOM;

    public Followrow() {
        for (int person = 0; person < PEOPLE; person++) {
            rows[person] = new Row(person);
        }
    }

    // ---- who follows whom

    /** Lets a person follow an author; returns how many followers the author has then. */
    public int follow(int person, int author)
            throws IndexOutOfBoundsException, IllegalArgumentException, IllegalStateException {
        checkPerson(person);
        checkPerson(author);
        checkDifferent(person, author);
        if (following.has(person, author)) {
            throw new IllegalStateException("the person follows the author already");
        }
        if (blocking.has(author, person) || blocking.has(person, author)) {
            throw new IllegalStateException("one of both has blocked the other one");
        }
        following.put(person, author, true);
        settleRows();
        return following.countTo(author);
    }

    /** Lets a person follow an author no more; returns how many followers the author has then. */
    public int unfollow(int person, int author)
            throws IndexOutOfBoundsException, IllegalStateException {
        checkPerson(person);
        checkPerson(author);
        if (!following.has(person, author)) {
            throw new IllegalStateException("the person does not follow the author");
        }
        following.put(person, author, false);
        settleRows();
        return following.countTo(author);
    }

    /** Lets a person mute an author, or not any more; returns whether the author was muted. */
    public boolean mute(int person, int author, boolean muted)
            throws IndexOutOfBoundsException, IllegalArgumentException {
        checkPerson(person);
        checkPerson(author);
        checkDifferent(person, author);
        boolean was = muting.has(person, author);
        // No row is settled: muted authors stay in rows and are left out of timelines alone.
        muting.put(person, author, muted);
        return was;
    }

    /** Lets an author block a person, or not any more; returns whether the person was blocked. */
    public boolean block(int author, int person, boolean blocked)
            throws IndexOutOfBoundsException, IllegalArgumentException {
        checkPerson(author);
        checkPerson(person);
        checkDifferent(author, person);
        boolean was = blocking.has(author, person);
        blocking.put(author, person, blocked);
        if (blocked) {
            following.put(author, person, false);
            following.put(person, author, false);
            settleRows();
        }
        return was;
    }

    // ---- entries

    /** Makes a post; returns its number. */
    public int post(int author) throws IndexOutOfBoundsException, IllegalStateException {
        checkPerson(author);
        checkPlace();
        int entry = ledger.made();
        ledger.add(author, entry);
        settleRows();
        return entry;
    }

    /** Makes a repost of the origin of an entry; returns the number of the repost. */
    public int repost(int author, int entry)
            throws IndexOutOfBoundsException, IllegalStateException {
        checkPerson(author);
        checkEntry(entry);
        checkPlace();
        int origin = ledger.origin(entry);
        if (!ledger.stands(entry) || !ledger.stands(origin)) {
            throw new IllegalStateException("the entry or its origin is deleted");
        }
        if (blocking.has(ledger.author(origin), author)) {
            throw new IllegalStateException("the author of the origin has blocked the author");
        }
        int made = ledger.made();
        ledger.add(author, origin);
        settleRows();
        return made;
    }

    /**
     * Deletes an entry; returns how many entries are not deleted whose origin it is, if it is a
     * post, and 0 for a repost.
     */
    public int delete(int entry) throws IndexOutOfBoundsException, IllegalStateException {
        checkEntry(entry);
        if (!ledger.stands(entry)) {
            throw new IllegalStateException("the entry is deleted");
        }
        ledger.remove(entry);
        settleRows();
        return ledger.countStandingOf(entry);
    }

    // ---- settings

    /** Sets the mark; returns how many authors are large then. */
    public int setMark(int mark) throws IllegalArgumentException {
        checkRange(mark, 0, PEOPLE);
        this.mark = mark;
        settleRows();
        return countLarge();
    }

    /** Sets the room of all rows; returns the room that it was. */
    public int setRoom(int room) throws IllegalArgumentException {
        checkRange(room, 1, MOST_ROOM);
        int was = this.room;
        this.room = room;
        settleRows();
        return was;
    }

    // ---- what is asked: people and entries

    /** Returns how many entries were made. */
    public int entries() {
        return ledger.made();
    }

    /** Returns the author of an entry. */
    public int authorOf(int entry) throws IndexOutOfBoundsException {
        checkEntry(entry);
        return ledger.author(entry);
    }

    /** Returns the origin of an entry: the number of the post. */
    public int originOf(int entry) throws IndexOutOfBoundsException {
        checkEntry(entry);
        return ledger.origin(entry);
    }

    /** Tells whether a person follows an author. */
    public boolean follows(int person, int author) throws IndexOutOfBoundsException {
        checkPerson(person);
        checkPerson(author);
        return following.has(person, author);
    }

    /** Returns how many followers an author has. */
    public int followers(int author) throws IndexOutOfBoundsException {
        checkPerson(author);
        return following.countTo(author);
    }

    /** Tells whether an author is large. */
    public boolean isLarge(int author) throws IndexOutOfBoundsException {
        checkPerson(author);
        return isOverMark(author);
    }

    // ---- what is asked: rows

    /** Returns how many entries the row of a person has. */
    public int inRow(int person) throws IndexOutOfBoundsException {
        return rowOf(person).count();
    }

    /** Returns an entry of the row of a person; the index 0 is the lowest one's. */
    public int rowAt(int person, int index) throws IndexOutOfBoundsException {
        Row row = rowOf(person);
        if (index < 0 || index >= row.count()) {
            throw new IndexOutOfBoundsException("the row has not so many");
        }
        return row.fromNewest(row.count() - 1 - index);
    }

    /** Returns the floor of a person. */
    public int floorOf(int person) throws IndexOutOfBoundsException {
        return rowOf(person).floor();
    }

    // ---- what is asked: timelines

    /** Tells whether an entry shows in the timeline of a person. */
    public boolean shows(int person, int entry) throws IndexOutOfBoundsException {
        Row row = rowOf(person);
        checkEntry(entry);
        readTimeline(row);
        return timeline.at(timeline.placeBelow(entry + 1)) == entry;
    }

    /** Returns the next entry of the timeline of a person below a cursor; NONE if there is none. */
    public int next(int person, int cursor)
            throws IndexOutOfBoundsException, IllegalArgumentException {
        Row row = rowOf(person);
        checkRange(cursor, 0, MOST_ENTRIES);
        readTimeline(row);
        return timeline.at(timeline.placeBelow(cursor));
    }

    /** Returns the last entry of a page of the timeline of a person; NONE if the page has none. */
    public int pageEnd(int person, int cursor, int size)
            throws IndexOutOfBoundsException, IllegalArgumentException {
        Row row = rowOf(person);
        checkRange(cursor, 0, MOST_ENTRIES);
        checkRange(size, 1, MOST_ON_PAGE);
        readTimeline(row);
        int first = timeline.placeBelow(cursor);
        if (first >= timeline.count()) {
            return NONE;
        }
        return timeline.at(Math.min(first + size, timeline.count()) - 1);
    }

    /** Returns how many entries the timeline of a person has. */
    public int length(int person) throws IndexOutOfBoundsException {
        readTimeline(rowOf(person));
        return timeline.count();
    }

    /**
     * Returns the same as length, by merging all entries of all authors whom the person follows,
     * without rows.
     */
    public int lengthByMerging(int person) throws IndexOutOfBoundsException {
        mergeTimeline(person, rowOf(person).floor());
        return timeline.count();
    }

    /**
     * Tells whether some author whom the person follows has an entry that is not deleted, by a
     * number up to the floor.
     */
    public boolean hasGap(int person) throws IndexOutOfBoundsException {
        int floor = rowOf(person).floor();
        for (int entry = 0; entry <= floor; entry++) {
            if (ledger.stands(entry) && following.has(person, ledger.author(entry))) {
                return true;
            }
        }
        return false;
    }

    // ---- what a call must keep to

    private static boolean isPerson(int number) {
        return number >= 0 && number < PEOPLE;
    }

    private static void checkPerson(int number) {
        if (!isPerson(number)) {
            throw new IndexOutOfBoundsException("no such person or author");
        }
    }

    private static void checkDifferent(int person, int author) {
        if (person == author) {
            throw new IllegalArgumentException("both are the same");
        }
    }

    private static void checkRange(int number, int least, int most) {
        if (number < least || number > most) {
            throw new IllegalArgumentException("out of range");
        }
    }

    private void checkEntry(int number) {
        if (!ledger.has(number)) {
            throw new IndexOutOfBoundsException("no such entry");
        }
    }

    private void checkPlace() {
        if (ledger.made() >= MOST_ENTRIES) {
            throw new IllegalStateException("all entries were made");
        }
    }

    private Row rowOf(int person) {
        checkPerson(person);
        return rows[person];
    }

    // ---- large and small authors

    private boolean isOverMark(int author) {
        return following.countTo(author) > mark;
    }

    private int countLarge() {
        int large = 0;
        for (int author = 0; author < PEOPLE; author++) {
            if (isOverMark(author)) {
                large++;
            }
        }
        return large;
    }

    // ---- rows

    private void settleRows() {
        for (Row row : rows) {
            settleRow(row);
        }
    }

    // Going down, the first entry for which there is no room any more is the highest one that
    // cutting the lowest ones, one behind the other, would put out: the floor ends up there.
    private void settleRow(Row row) {
        int oldFloor = row.floor();
        row.empty();
        for (int entry = ledger.made() - 1; entry > oldFloor; entry--) {
            if (isForRow(row.owner(), entry)) {
                if (row.count() >= room) {
                    row.raiseFloor(entry);
                    return;
                }
                row.addBelow(entry);
            }
        }
    }

    private boolean isForRow(int person, int entry) {
        int author = ledger.author(entry);
        return ledger.stands(entry) && following.has(person, author) && !isOverMark(author);
    }

    // ---- timelines

    // The row and the fetched entries are merged as both are, newest first, so that the newest
    // one of an origin is offered first.
    private void readTimeline(Row row) {
        timeline.empty();
        int place = 0;
        for (int entry = ledger.made() - 1; entry > row.floor(); entry--) {
            boolean pushed = row.fromNewest(place) == entry;
            if (pushed) {
                place++;
            }
            if (pushed || isFetched(row.owner(), entry)) {
                offer(row.owner(), entry);
            }
        }
    }

    private void mergeTimeline(int person, int floor) {
        timeline.empty();
        for (int entry = ledger.made() - 1; entry > floor; entry--) {
            if (following.has(person, ledger.author(entry))) {
                offer(person, entry);
            }
        }
    }

    private boolean isFetched(int person, int entry) {
        int author = ledger.author(entry);
        return following.has(person, author) && isOverMark(author);
    }

    private void offer(int person, int entry) {
        if (!isHidden(person, entry)) {
            timeline.addBelow(entry, ledger.origin(entry));
        }
    }

    private boolean isHidden(int person, int entry) {
        int origin = ledger.origin(entry);
        if (!ledger.stands(entry) || !ledger.stands(origin)) {
            return true;
        }
        int originAuthor = ledger.author(origin);
        return muting.has(person, ledger.author(entry))
                || muting.has(person, originAuthor)
                || blocking.has(originAuthor, person);
    }

    /** Who does something to whom: follows, mutes or blocks. */
    private static final class Relation {
        private final boolean[] pairs = new boolean[PEOPLE * PEOPLE];

        boolean has(int from, int to) {
            return isPerson(from) && isPerson(to) && pairs[from * PEOPLE + to];
        }

        void put(int from, int to, boolean value) {
            if (isPerson(from) && isPerson(to)) {
                pairs[from * PEOPLE + to] = value;
            }
        }

        int countTo(int to) {
            int count = 0;
            for (int from = 0; from < PEOPLE; from++) {
                if (has(from, to)) {
                    count++;
                }
            }
            return count;
        }
    }

    /** All entries that were made, by their numbers; deleted ones stay in it. */
    private static final class Ledger {
        private final int[] authors = new int[MOST_ENTRIES];
        private final int[] origins = new int[MOST_ENTRIES];
        private final boolean[] deleted = new boolean[MOST_ENTRIES];
        private int made;

        int made() {
            return made;
        }

        boolean has(int entry) {
            return entry >= 0 && entry < made;
        }

        boolean stands(int entry) {
            return has(entry) && !deleted[entry];
        }

        int author(int entry) {
            return has(entry) ? authors[entry] : NONE;
        }

        int origin(int entry) {
            return has(entry) ? origins[entry] : NONE;
        }

        void add(int author, int origin) {
            if (made < MOST_ENTRIES) {
                authors[made] = author;
                origins[made] = origin;
                made++;
            }
        }

        void remove(int entry) {
            if (has(entry)) {
                deleted[entry] = true;
            }
        }

        int countStandingOf(int origin) {
            int count = 0;
            for (int entry = 0; entry < made; entry++) {
                if (origin(entry) == origin && stands(entry)) {
                    count++;
                }
            }
            return count;
        }
    }

    /** The row of a person, newest first, and the floor below it. */
    private static final class Row {
        private final int owner;
        private final int[] numbers = new int[MOST_ROOM];
        private int count;
        private int floor = FIRST_FLOOR;

        Row(int owner) {
            this.owner = owner;
        }

        int owner() {
            return owner;
        }

        int floor() {
            return floor;
        }

        void raiseFloor(int entry) {
            floor = entry;
        }

        int count() {
            return count;
        }

        int fromNewest(int place) {
            return place >= 0 && place < count ? numbers[place] : NONE;
        }

        void empty() {
            count = 0;
        }

        void addBelow(int entry) {
            if (count < MOST_ROOM) {
                numbers[count] = entry;
                count++;
            }
        }
    }

    /** The entries that show, newest first, each origin once. */
    private static final class Timeline {
        private final int[] numbers = new int[MOST_ENTRIES];
        private final boolean[] taken = new boolean[MOST_ENTRIES];
        private int count;

        int count() {
            return count;
        }

        int at(int place) {
            return place >= 0 && place < count ? numbers[place] : NONE;
        }

        int placeBelow(int cursor) {
            for (int place = 0; place < count; place++) {
                if (at(place) < cursor) {
                    return place;
                }
            }
            return count;
        }

        void empty() {
            count = 0;
            for (int origin = 0; origin < MOST_ENTRIES; origin++) {
                taken[origin] = false;
            }
        }

        void addBelow(int entry, int origin) {
            boolean fits = count < MOST_ENTRIES && origin >= 0 && origin < MOST_ENTRIES;
            if (fits && !taken[origin]) {
                taken[origin] = true;
                numbers[count] = entry;
                count++;
            }
        }
    }
}
