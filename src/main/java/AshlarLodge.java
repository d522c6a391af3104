/**
 * A stonemasons' lodge: courses with templates, masons with marks, stones, frost and pay.
 * What each method promises stands in ../shared/DOC.md.
 */
public final class AshlarLodge {
    public static final int NONE = -9;

    private static final int MAX_CHARACTERS = 80;
    private static final int MAX_CODE = 255;
    private static final int MAX_COURSES = 6;
    private static final int MAX_SIZE = 9;
    private static final int MAX_FACES = 6;
    private static final int MAX_NEEDED = 9;
    private static final int MAX_MASONS = 6;
    private static final int MAX_RATE = 9;
    private static final int MAX_STRENGTH = 12;
    private static final int MAX_STONES = 24;
    private static final int MAX_FAULT = 9;
    private static final int MAX_BOUND = 9;
    private static final int FIRST_BOUND = 3;
    private static final int MAX_REMEMBERED = 14;
    private static final int SLOTS = 2;
    private static final int MAX_DAYS_LEFT = 99;
    private static final int MAX_ROUNDS = 99;
    private static final int MAX_COMMANDS = 3;
    private static final int GROUP = 100000;
    private static final int MAX_OWED_TOLD = 9999;

    // The columns of the tables bear the numbers that the document gives to the argument "what",
    // so that course, mason and stone can answer most questions straight from a table.
    private static final int SIZE = 0;
    private static final int FACES = 1;
    private static final int NEEDED = 2;
    private static final int COURSE_COLUMNS = 3;

    private static final int RATE = 0;
    private static final int STRENGTH = 1;
    private static final int WORK = 2;
    private static final int OWED = 3;
    private static final int MASON_COLUMNS = 4;

    private static final int COURSE = 0;
    private static final int MARK = 1;
    private static final int FAULT = 2;
    private static final int STATE = 3;
    private static final int RECUTS = 4;
    private static final int FIRST_MARK = 5;
    private static final int STONE_COLUMNS = 6;

    private static final int IS_CUT = 0;
    private static final int IS_ACCEPTED = 1;
    private static final int IS_REJECTED = 2;
    private static final int IS_SET = 3;
    private static final int IS_SCRAPPED = 4;

    private final Text text = new Text();
    private final Lodge now = new Lodge();
    // One lodge for all that is only tried (a text, a script, a simulation), so that no call makes rows.
    private final Lodge trial = new Lodge();
    private final Memory memory = new Memory();
    private final Shelf shelf = new Shelf();
    private final Forecast forecast = new Forecast();

    public AshlarLodge() {
    }

    // ---- text

    public int append(int c) throws IllegalArgumentException, IllegalStateException {
        if (!isWithin(c, 0, MAX_CODE)) {
            throw new IllegalArgumentException("a character code is 0 to 255");
        }
        if (text.isFull()) {
            throw new IllegalStateException("the text already has 80 characters");
        }
        return text.addCharacter((char) c);
    }

    public int clearText() {
        return text.empty();
    }

    public int errorPosition() {
        return new Reader(text, trial).read();
    }

    public int load() throws IllegalStateException {
        if (new Reader(text, trial).read() != NONE) {
            throw new IllegalStateException("the text is not a lodge");
        }
        copyLodge(trial, now);
        memory.forgetAll();
        shelf.emptyAll();
        return now.stones.size();
    }

    // ---- what there is

    public int about(int what) throws IllegalArgumentException {
        switch (what) {
            case 0: return now.courses.size();
            case 1: return now.masons.size();
            case 2: return now.stones.size();
            case 3: return now.day;
            case 4: return now.frost ? 1 : 0;
            case 5: return now.bound;
            case 6: return now.completeCourses();
            case 7: return now.stones.count(STATE, IS_SET);
            case 8: return now.stones.count(STATE, IS_SCRAPPED);
            case 9: return now.masons.sum(OWED);
            case 10: return now.paid;
            case 11: return now.frostDays;
            default: throw new IllegalArgumentException("what is 0 to 11");
        }
    }

    public int course(int c, int what) throws IndexOutOfBoundsException, IllegalArgumentException {
        requireCourse(c);
        switch (what) {
            case SIZE:
            case FACES:
            case NEEDED: return now.courses.get(c, what);
            case 3: return now.stones.countBoth(COURSE, c, STATE, IS_SET);
            case 4: return now.lacking(c);
            case 5: return now.stones.countBoth(COURSE, c, STATE, IS_CUT);
            case 6: return now.stones.countBoth(COURSE, c, STATE, IS_REJECTED);
            default: throw new IllegalArgumentException("what is 0 to 6");
        }
    }

    public int mason(int m, int what) throws IndexOutOfBoundsException, IllegalArgumentException {
        requireMason(m);
        switch (what) {
            case RATE:
            case STRENGTH:
            case WORK:
            case OWED: return now.masons.get(m, what);
            case 4: return now.stones.countBoth(MARK, m, STATE, IS_SET);
            case 5: return now.badMarks(m);
            default: throw new IllegalArgumentException("what is 0 to 5");
        }
    }

    public int stone(int s, int what) throws IndexOutOfBoundsException, IllegalArgumentException {
        requireStone(s);
        if (!isWithin(what, COURSE, FIRST_MARK)) {
            throw new IllegalArgumentException("what is 0 to 5");
        }
        return now.stones.get(s, what);
    }

    public int whyNotSet(int s) throws IndexOutOfBoundsException {
        requireStone(s);
        return now.hindrance(s);
    }

    // ---- actions

    public int addCourse(int size, int faces, int needed) throws IllegalArgumentException, IllegalStateException {
        if (!isWithin(size, 1, MAX_SIZE) || !isWithin(faces, 1, MAX_FACES) || !isWithin(needed, 1, MAX_NEEDED)) {
            throw new IllegalArgumentException("a size is 1 to 9, faces are 1 to 6, a course needs 1 to 9 stones");
        }
        if (!now.courses.hasRoom()) {
            throw new IllegalStateException("there are 6 courses");
        }
        memory.remember(now);
        return now.newCourse(size, faces, needed);
    }

    public int addMason(int rate, int strength) throws IllegalArgumentException, IllegalStateException {
        if (!isWithin(rate, 1, MAX_RATE) || !isWithin(strength, 1, MAX_STRENGTH)) {
            throw new IllegalArgumentException("a rate is 1 to 9, a strength 1 to 12");
        }
        if (!now.masons.hasRoom()) {
            throw new IllegalStateException("there are 6 masons");
        }
        memory.remember(now);
        return now.newMason(rate, strength);
    }

    public int setRate(int m, int rate) throws IndexOutOfBoundsException, IllegalArgumentException {
        requireMason(m);
        if (!isWithin(rate, 1, MAX_RATE)) {
            throw new IllegalArgumentException("a rate is 1 to 9");
        }
        memory.remember(now);
        int previous = now.masons.get(m, RATE);
        now.masons.put(m, RATE, rate);
        return previous;
    }

    public int setBound(int bound) throws IllegalArgumentException {
        requireBound(bound);
        memory.remember(now);
        int previous = now.bound;
        now.bound = bound;
        return previous;
    }

    public int cut(int m, int c, int fault)
            throws IndexOutOfBoundsException, IllegalArgumentException, IllegalStateException {
        requireMason(m);
        requireCourse(c);
        if (!isWithin(fault, 0, MAX_FAULT)) {
            throw new IllegalArgumentException("a fault is 0 to 9");
        }
        if (!now.mayCut(m, c)) {
            throw new IllegalStateException("too little work is left to the mason, or there are 24 stones");
        }
        memory.remember(now);
        return now.cutStone(m, c, fault);
    }

    public int inspect(int s) throws IndexOutOfBoundsException, IllegalStateException {
        requireStone(s);
        if (!now.mayInspect(s)) {
            throw new IllegalStateException("the state of the stone is not 0");
        }
        memory.remember(now);
        return now.inspectStone(s);
    }

    public int recut(int m, int s, int c) throws IndexOutOfBoundsException, IllegalStateException {
        requireMason(m);
        requireStone(s);
        requireCourse(c);
        if (!now.mayRecut(m, s, c)) {
            throw new IllegalStateException("not rejected, not a smaller template, or too little work is left");
        }
        memory.remember(now);
        return now.recutStone(m, s, c);
    }

    public int scrap(int s) throws IndexOutOfBoundsException, IllegalStateException {
        requireStone(s);
        if (!now.mayScrap(s)) {
            throw new IllegalStateException("the state of the stone is not 2");
        }
        memory.remember(now);
        return now.scrapStone(s);
    }

    public int set(int s) throws IndexOutOfBoundsException, IllegalStateException {
        requireStone(s);
        if (now.hindrance(s) != 0) {
            throw new IllegalStateException("the stone cannot be set");
        }
        memory.remember(now);
        return now.setStone(s);
    }

    public int pay() {
        memory.remember(now);
        return now.payAll();
    }

    public int nextDay(boolean frost) {
        memory.remember(now);
        return now.beginDay(frost);
    }

    public int undo() throws IllegalStateException {
        if (memory.isEmpty()) {
            throw new IllegalStateException("no state is remembered");
        }
        return memory.takeBack(now);
    }

    // ---- what would be

    public int recutFor(int s) throws IndexOutOfBoundsException {
        requireStone(s);
        return now.courseForRecut(s);
    }

    public int cheapest(int c) throws IndexOutOfBoundsException {
        requireCourse(c);
        return now.cheapestFor(c);
    }

    public int costLeft() {
        return now.costOfLacking();
    }

    public int daysLeft() {
        return forecast.daysFor(now);
    }

    public int canSet() {
        return now.settable();
    }

    public int wouldEarn(int bound) throws IllegalArgumentException {
        requireBound(bound);
        return now.earnings(bound);
    }

    public int worstMark() {
        return now.worstMason();
    }

    // ---- scripts, simulations

    public int runScript(int n, long script) throws IllegalArgumentException {
        if (!isWithin(n, 1, MAX_COMMANDS)) {
            throw new IllegalArgumentException("a script has 1 to 3 commands");
        }
        if (script < 0 || Script.withoutLastGroups(script, n) != 0) {
            throw new IllegalArgumentException("a script has at most 5 digits for each command");
        }
        copyLodge(now, trial);
        for (int i = 0; i < n; i++) {
            if (!Script.succeeds(trial, Script.lastGroup(Script.withoutLastGroups(script, n - 1 - i)))) {
                return i;
            }
        }
        return NONE;
    }

    public int simulate(long seed, int m) throws IllegalArgumentException {
        if (!isWithin(m, 1, MAX_ROUNDS)) {
            throw new IllegalArgumentException("a simulation has 1 to 99 rounds");
        }
        copyLodge(now, trial);
        long x = seed;
        for (int i = 0; i < m; i++) {
            x = x * 6364136223846793005L + 1442695040888963407L;
            Simulation.playRound(trial, (int) (x >>> 33));
        }
        return 10000 * trial.stones.count(STATE, IS_SET) + Math.min(trial.masons.sum(OWED), MAX_OWED_TOLD);
    }

    // ---- save slots

    public int save(int slot) throws IndexOutOfBoundsException {
        requireSlot(slot);
        shelf.store(slot, now);
        return now.day;
    }

    public int restore(int slot) throws IndexOutOfBoundsException, IllegalStateException {
        requireSlot(slot);
        if (!shelf.isFilled(slot)) {
            throw new IllegalStateException("nothing has been saved in this slot since the last load");
        }
        shelf.fetch(slot, now);
        memory.forgetAll();
        return now.day;
    }

    // ---- tests of arguments

    private void requireCourse(int c) throws IndexOutOfBoundsException {
        if (!now.courses.has(c)) {
            throw new IndexOutOfBoundsException("there is no such course");
        }
    }

    private void requireMason(int m) throws IndexOutOfBoundsException {
        if (!now.masons.has(m)) {
            throw new IndexOutOfBoundsException("there is no such mason");
        }
    }

    private void requireStone(int s) throws IndexOutOfBoundsException {
        if (!now.stones.has(s)) {
            throw new IndexOutOfBoundsException("there is no such stone");
        }
    }

    private static void requireBound(int bound) throws IllegalArgumentException {
        if (!isWithin(bound, 0, MAX_BOUND)) {
            throw new IllegalArgumentException("a bound is 0 to 9");
        }
    }

    private static void requireSlot(int slot) throws IndexOutOfBoundsException {
        if (!isWithin(slot, 0, SLOTS - 1)) {
            throw new IndexOutOfBoundsException("a save slot is 0 or 1");
        }
    }

    private static boolean isWithin(int value, int low, int high) {
        return value >= low && value <= high;
    }

    private static void copyLodge(Lodge from, Lodge to) {
        if (from != null && to != null) {
            to.copyFrom(from);
        }
    }

    /** Rows of numbers with named columns; a cell outside it reads as 0 and is never written. */
    private static final class Table {
        private final int[] cells;
        private final int width;
        private final int limit;
        private int rows;

        Table(int[] cells, int width, int limit) {
            this.cells = cells;
            this.width = width;
            this.limit = limit;
        }

        int size() {
            return rows;
        }

        boolean has(int row) {
            return row >= 0 && row < rows;
        }

        boolean hasRoom() {
            return rows < limit;
        }

        void removeAll() {
            rows = 0;
        }

        int addRow() {
            if (!hasRoom()) {
                return NONE;
            }
            rows++;
            return rows - 1;
        }

        int get(int row, int column) {
            if (row < 0 || row >= rows || column < 0 || column >= width) {
                return 0;
            }
            int place = row * width + column;
            return place >= 0 && place < cells.length ? cells[place] : 0;
        }

        void put(int row, int column, int value) {
            if (row < 0 || row >= rows || column < 0 || column >= width) {
                return;
            }
            int place = row * width + column;
            if (place >= 0 && place < cells.length) {
                cells[place] = value;
            }
        }

        void increase(int row, int column, int by) {
            put(row, column, get(row, column) + by);
        }

        int sum(int column) {
            int sum = 0;
            for (int row = 0; row < rows; row++) {
                sum += get(row, column);
            }
            return sum;
        }

        int count(int column, int value) {
            int count = 0;
            for (int row = 0; row < rows; row++) {
                if (get(row, column) == value) {
                    count++;
                }
            }
            return count;
        }

        int countBoth(int column, int value, int otherColumn, int otherValue) {
            int count = 0;
            for (int row = 0; row < rows; row++) {
                if (get(row, column) == value && get(row, otherColumn) == otherValue) {
                    count++;
                }
            }
            return count;
        }

        int firstWith(int column, int value) {
            for (int row = 0; row < rows; row++) {
                if (get(row, column) == value) {
                    return row;
                }
            }
            return NONE;
        }

        void copyFrom(Table other) {
            for (int i = 0; i < cells.length && i < other.cells.length; i++) {
                cells[i] = other.cells[i];
            }
            rows = other.rows;
        }
    }

    /** The state that actions change. */
    private static final class Lodge {
        final Table courses = new Table(new int[MAX_COURSES * COURSE_COLUMNS], COURSE_COLUMNS, MAX_COURSES);
        final Table masons = new Table(new int[MAX_MASONS * MASON_COLUMNS], MASON_COLUMNS, MAX_MASONS);
        final Table stones = new Table(new int[MAX_STONES * STONE_COLUMNS], STONE_COLUMNS, MAX_STONES);
        int day;
        boolean frost;
        int bound = FIRST_BOUND;
        int paid;
        int frostDays;

        void makeNew() {
            courses.removeAll();
            masons.removeAll();
            stones.removeAll();
            day = 0;
            frost = false;
            bound = FIRST_BOUND;
            paid = 0;
            frostDays = 0;
        }

        void copyFrom(Lodge other) {
            courses.copyFrom(other.courses);
            masons.copyFrom(other.masons);
            stones.copyFrom(other.stones);
            day = other.day;
            frost = other.frost;
            bound = other.bound;
            paid = other.paid;
            frostDays = other.frostDays;
        }

        /** Also the lowest open course: the complete ones are below, since stones are set only on them. */
        int completeCourses() {
            for (int c = 0; c < courses.size(); c++) {
                if (stones.countBoth(COURSE, c, STATE, IS_SET) < courses.get(c, NEEDED)) {
                    return c;
                }
            }
            return courses.size();
        }

        int lacking(int c) {
            int ready = stones.countBoth(COURSE, c, STATE, IS_SET) + stones.countBoth(COURSE, c, STATE, IS_ACCEPTED);
            return Math.max(0, courses.get(c, NEEDED) - ready);
        }

        int badMarks(int m) {
            return stones.countBoth(MARK, m, STATE, IS_REJECTED) + stones.countBoth(MARK, m, STATE, IS_SCRAPPED);
        }

        int hindrance(int s) {
            if (stones.get(s, STATE) != IS_ACCEPTED) {
                return 1;
            }
            if (frost) {
                return 2;
            }
            int c = stones.get(s, COURSE);
            int open = completeCourses();
            if (c > open) {
                return 3;
            }
            return c < open ? 4 : 0;
        }

        int newCourse(int size, int faces, int needed) {
            int c = courses.addRow();
            courses.put(c, SIZE, size);
            courses.put(c, FACES, faces);
            courses.put(c, NEEDED, needed);
            return c;
        }

        int newMason(int rate, int strength) {
            int m = masons.addRow();
            masons.put(m, RATE, rate);
            masons.put(m, STRENGTH, strength);
            masons.put(m, WORK, 0);
            masons.put(m, OWED, 0);
            return m;
        }

        int newStone(int m, int c, int fault) {
            int s = stones.addRow();
            stones.put(s, COURSE, c);
            stones.put(s, MARK, m);
            stones.put(s, FAULT, fault);
            stones.put(s, STATE, IS_CUT);
            stones.put(s, RECUTS, 0);
            stones.put(s, FIRST_MARK, m);
            return s;
        }

        boolean hasWorkToCut(int m, int c) {
            return masons.get(m, WORK) >= courses.get(c, FACES);
        }

        boolean mayCut(int m, int c) {
            return masons.has(m) && courses.has(c) && hasWorkToCut(m, c) && stones.hasRoom();
        }

        int cutStone(int m, int c, int fault) {
            masons.increase(m, WORK, -courses.get(c, FACES));
            return newStone(m, c, fault);
        }

        boolean mayInspect(int s) {
            return stones.has(s) && stones.get(s, STATE) == IS_CUT;
        }

        private int priceOf(int s) {
            int price = courses.get(stones.get(s, COURSE), FACES) * masons.get(stones.get(s, MARK), RATE);
            return stones.get(s, RECUTS) > 0 ? price / 2 : price;
        }

        int inspectStone(int s) {
            if (stones.get(s, FAULT) > bound) {
                stones.put(s, STATE, IS_REJECTED);
                return NONE;
            }
            int price = priceOf(s);
            stones.put(s, STATE, IS_ACCEPTED);
            masons.increase(stones.get(s, MARK), OWED, price);
            return price;
        }

        private int workToRecut(int c) {
            return (courses.get(c, FACES) + 1) / 2;
        }

        private boolean isSmaller(int c, int thanCourse) {
            return courses.get(c, SIZE) < courses.get(thanCourse, SIZE);
        }

        boolean mayRecut(int m, int s, int c) {
            return masons.has(m) && stones.has(s) && courses.has(c)
                    && stones.get(s, STATE) == IS_REJECTED
                    && isSmaller(c, stones.get(s, COURSE))
                    && masons.get(m, WORK) >= workToRecut(c);
        }

        int recutStone(int m, int s, int c) {
            int smallerBy = courses.get(stones.get(s, COURSE), SIZE) - courses.get(c, SIZE);
            int fault = Math.max(0, stones.get(s, FAULT) - smallerBy);
            masons.increase(m, WORK, -workToRecut(c));
            stones.put(s, COURSE, c);
            stones.put(s, MARK, m);
            stones.put(s, FAULT, fault);
            stones.put(s, STATE, IS_CUT);
            stones.increase(s, RECUTS, 1);
            return fault;
        }

        boolean mayScrap(int s) {
            return stones.has(s) && stones.get(s, STATE) == IS_REJECTED;
        }

        int scrapStone(int s) {
            stones.put(s, STATE, IS_SCRAPPED);
            return stones.count(STATE, IS_SCRAPPED);
        }

        int setStone(int s) {
            stones.put(s, STATE, IS_SET);
            return stones.countBoth(COURSE, stones.get(s, COURSE), STATE, IS_SET);
        }

        int payAll() {
            int sum = masons.sum(OWED);
            for (int m = 0; m < masons.size(); m++) {
                masons.put(m, OWED, 0);
            }
            paid += sum;
            return sum;
        }

        void handOutWork() {
            for (int m = 0; m < masons.size(); m++) {
                masons.put(m, WORK, frost ? 0 : masons.get(m, STRENGTH));
            }
        }

        int beginDay(boolean withFrost) {
            day++;
            frost = withFrost;
            handOutWork();
            if (withFrost) {
                frostDays++;
                for (int m = 0; m < masons.size(); m++) {
                    masons.increase(m, OWED, 2 * masons.get(m, RATE));
                }
            }
            return day;
        }

        int courseForRecut(int s) {
            if (stones.get(s, STATE) != IS_REJECTED) {
                return NONE;
            }
            int own = stones.get(s, COURSE);
            int best = NONE;
            for (int c = 0; c < courses.size(); c++) {
                if (isSmaller(c, own) && lacking(c) > 0 && (best == NONE || isSmaller(best, c))) {
                    best = c;
                }
            }
            return best;
        }

        int cheapestFor(int c) {
            int best = NONE;
            for (int m = 0; m < masons.size(); m++) {
                if (hasWorkToCut(m, c) && (best == NONE || masons.get(m, RATE) < masons.get(best, RATE))) {
                    best = m;
                }
            }
            return best;
        }

        private int smallestRate() {
            int smallest = MAX_RATE;
            for (int m = 0; m < masons.size(); m++) {
                smallest = Math.min(smallest, masons.get(m, RATE));
            }
            return smallest;
        }

        int costOfLacking() {
            int faces = 0;
            for (int c = 0; c < courses.size(); c++) {
                faces += lacking(c) * courses.get(c, FACES);
            }
            if (faces > 0 && masons.size() == 0) {
                return NONE;
            }
            return faces * smallestRate();
        }

        int settable() {
            if (frost) {
                return 0;
            }
            int settable = 0;
            for (int c = 0; c < courses.size(); c++) {
                int open = courses.get(c, NEEDED) - stones.countBoth(COURSE, c, STATE, IS_SET);
                int accepted = stones.countBoth(COURSE, c, STATE, IS_ACCEPTED);
                settable += Math.min(open, accepted);
                if (accepted < open) {
                    return settable;
                }
            }
            return settable;
        }

        int earnings(int otherBound) {
            int sum = 0;
            for (int s = 0; s < stones.size(); s++) {
                if (stones.get(s, STATE) == IS_CUT && stones.get(s, FAULT) <= otherBound) {
                    sum += priceOf(s);
                }
            }
            return sum;
        }

        int worstMason() {
            int worst = NONE;
            int most = 0;
            for (int m = 0; m < masons.size(); m++) {
                int bad = badMarks(m);
                if (bad > most) {
                    most = bad;
                    worst = m;
                }
            }
            return worst;
        }
    }

    /** The states ahead of the last actions, in a ring. */
    private static final class Memory {
        private final Lodge[] states = new Lodge[MAX_REMEMBERED];
        private int next;
        private int remembered;

        Memory() {
            for (int i = 0; i < states.length; i++) {
                states[i] = new Lodge();
            }
        }

        boolean isEmpty() {
            return remembered == 0;
        }

        void forgetAll() {
            remembered = 0;
        }

        void remember(Lodge lodge) {
            if (next >= 0 && next < states.length) {
                copyLodge(lodge, states[next]);
            }
            next = next + 1 < MAX_REMEMBERED ? next + 1 : 0;
            remembered = Math.min(remembered + 1, MAX_REMEMBERED);
        }

        int takeBack(Lodge lodge) {
            next = next > 0 ? next - 1 : MAX_REMEMBERED - 1;
            remembered--;
            if (next >= 0 && next < states.length) {
                copyLodge(states[next], lodge);
            }
            return remembered;
        }
    }

    /** The save slots. */
    private static final class Shelf {
        private final Lodge[] states = new Lodge[SLOTS];
        private final boolean[] filled = new boolean[SLOTS];

        Shelf() {
            for (int i = 0; i < states.length; i++) {
                states[i] = new Lodge();
            }
        }

        void emptyAll() {
            for (int i = 0; i < filled.length; i++) {
                filled[i] = false;
            }
        }

        boolean isFilled(int slot) {
            return slot >= 0 && slot < filled.length && filled[slot];
        }

        void store(int slot, Lodge lodge) {
            if (slot >= 0 && slot < states.length && slot < filled.length) {
                copyLodge(lodge, states[slot]);
                filled[slot] = true;
            }
        }

        void fetch(int slot, Lodge lodge) {
            if (slot >= 0 && slot < states.length) {
                copyLodge(states[slot], lodge);
            }
        }
    }

    /** The text buffer. */
    private static final class Text {
        private final char[] characters = new char[MAX_CHARACTERS];
        private int length;

        int size() {
            return length;
        }

        boolean isFull() {
            return length >= MAX_CHARACTERS;
        }

        int addCharacter(char character) {
            if (length >= 0 && length < characters.length) {
                characters[length] = character;
                length++;
            }
            return length;
        }

        int empty() {
            int previous = length;
            length = 0;
            return previous;
        }

        /** The character 0, which no lodge contains, behind the end. */
        char at(int place) {
            return place >= 0 && place < length && place < characters.length ? characters[place] : 0;
        }
    }

    /**
     * Reads a text from left to right and builds the lodge that it tells. Each take leaves the place
     * at the character that it does not allow, so that the place is the error position.
     */
    private static final class Reader {
        private final Text text;
        private final Lodge lodge;
        private int place;

        Reader(Text text, Lodge lodge) {
            this.text = text;
            this.lodge = lodge;
        }

        int read() {
            place = 0;
            lodge.makeNew();
            if (text.at(place) != 'L') {
                return place;
            }
            place++;
            int bound = takeDigit(0, MAX_BOUND);
            if (bound == NONE) {
                return place;
            }
            lodge.bound = bound;
            for (int part = 0; part < MAX_CHARACTERS && place < text.size(); part++) {
                if (!takePart()) {
                    return place;
                }
            }
            // Only here, because the f may stand behind the masons.
            lodge.handOutWork();
            return NONE;
        }

        private boolean takePart() {
            switch (text.at(place)) {
                case 'c': return takeCourse();
                case 'm': return takeMason();
                case 's': return takeStone();
                case 'f': return takeFrost();
                default: return false;
            }
        }

        private int takeDigit(int low, int high) {
            int digit = text.at(place) - '0';
            if (!isWithin(digit, low, high)) {
                return NONE;
            }
            place++;
            return digit;
        }

        private boolean takeCourse() {
            if (!lodge.courses.hasRoom()) {
                return false;
            }
            place++;
            int size = takeDigit(1, MAX_SIZE);
            int faces = size == NONE ? NONE : takeDigit(1, MAX_FACES);
            int needed = faces == NONE ? NONE : takeDigit(1, MAX_NEEDED);
            if (needed == NONE) {
                return false;
            }
            lodge.newCourse(size, faces, needed);
            return true;
        }

        private boolean takeMason() {
            if (!lodge.masons.hasRoom()) {
                return false;
            }
            place++;
            int rate = takeDigit(1, MAX_RATE);
            int strength = rate == NONE ? NONE : takeStrength();
            if (strength == NONE) {
                return false;
            }
            lodge.newMason(rate, strength);
            return true;
        }

        private int takeStrength() {
            int tens = takeDigit(0, MAX_STRENGTH / 10);
            if (tens == NONE) {
                return NONE;
            }
            int ones = tens == 0 ? takeDigit(1, 9) : takeDigit(0, MAX_STRENGTH % 10);
            return ones == NONE ? NONE : 10 * tens + ones;
        }

        private boolean takeStone() {
            if (lodge.masons.size() == 0 || lodge.courses.size() == 0 || !lodge.stones.hasRoom()) {
                return false;
            }
            place++;
            int m = takeDigit(0, lodge.masons.size() - 1);
            int c = m == NONE ? NONE : takeDigit(0, lodge.courses.size() - 1);
            int fault = c == NONE ? NONE : takeDigit(0, MAX_FAULT);
            if (fault == NONE) {
                return false;
            }
            lodge.newStone(m, c, fault);
            return true;
        }

        private boolean takeFrost() {
            if (lodge.frost) {
                return false;
            }
            place++;
            lodge.frost = true;
            return true;
        }
    }

    /** Reckons in how many days the lacking stones could be cut. */
    private static final class Forecast {
        private final int[] lacking = new int[MAX_COURSES];
        private final int[] work = new int[MAX_MASONS];

        int daysFor(Lodge lodge) {
            for (int c = 0; c < lacking.length; c++) {
                lacking[c] = lodge.courses.has(c) ? lodge.lacking(c) : 0;
            }
            takeWork(lodge, WORK);
            for (int days = 0; days <= MAX_DAYS_LEFT; days++) {
                if (!isAnyLacking()) {
                    return days;
                }
                workOneDay(lodge);
                takeWork(lodge, STRENGTH);
            }
            return NONE;
        }

        private void takeWork(Lodge lodge, int column) {
            for (int m = 0; m < work.length; m++) {
                work[m] = lodge.masons.get(m, column);
            }
        }

        private boolean isAnyLacking() {
            for (int c = 0; c < lacking.length; c++) {
                if (lacking[c] > 0) {
                    return true;
                }
            }
            return false;
        }

        private void workOneDay(Lodge lodge) {
            for (int m = 0; m < work.length; m++) {
                // A stone takes one face or more, so no mason cuts more stones a day than this.
                for (int cuts = 0; cuts < MAX_STRENGTH; cuts++) {
                    int faces = cutNext(lodge, work[m]);
                    if (faces == 0) {
                        break;
                    }
                    work[m] -= faces;
                }
            }
        }

        /** Returns the faces of the stone that is cut; 0 if none can be. */
        private int cutNext(Lodge lodge, int workLeft) {
            for (int c = 0; c < lacking.length; c++) {
                int faces = lodge.courses.get(c, FACES);
                if (lacking[c] > 0 && faces <= workLeft) {
                    lacking[c]--;
                    return faces;
                }
            }
            return 0;
        }
    }

    /** Does what is possible, and tells whether it was. */
    private static final class Attempt {
        static boolean cuts(Lodge lodge, int m, int c, int fault) {
            if (!lodge.mayCut(m, c)) {
                return false;
            }
            lodge.cutStone(m, c, fault);
            return true;
        }

        static boolean inspects(Lodge lodge, int s) {
            if (!lodge.mayInspect(s)) {
                return false;
            }
            lodge.inspectStone(s);
            return true;
        }

        static boolean recuts(Lodge lodge, int m, int s, int c) {
            if (!lodge.mayRecut(m, s, c)) {
                return false;
            }
            lodge.recutStone(m, s, c);
            return true;
        }

        static boolean scraps(Lodge lodge, int s) {
            if (!lodge.mayScrap(s)) {
                return false;
            }
            lodge.scrapStone(s);
            return true;
        }

        static boolean sets(Lodge lodge, int s) {
            if (lodge.hindrance(s) != 0) {
                return false;
            }
            lodge.setStone(s);
            return true;
        }
    }

    /** Reads and runs the commands of a script. */
    private static final class Script {
        static long withoutLastGroups(long script, int groups) {
            long rest = script;
            for (int i = 0; i < groups; i++) {
                rest /= GROUP;
            }
            return rest;
        }

        static int lastGroup(long script) {
            return (int) (script % GROUP);
        }

        static boolean succeeds(Lodge lodge, int group) {
            int second = group / 1000 % 10;
            int third = group / 100 % 10;
            int fourth = group / 10 % 10;
            int fifth = group % 10;
            int lastTwo = group % 100;
            switch (group / 10000) {
                case 1: return fifth == 0 && Attempt.cuts(lodge, second, third, fourth);
                case 2: return second == 0 && third == 0 && Attempt.inspects(lodge, lastTwo);
                case 3: return Attempt.recuts(lodge, second, lastTwo, third);
                case 4: return second == 0 && third == 0 && Attempt.sets(lodge, lastTwo);
                case 5: return second == 0 && third == 0 && fourth == 0 && begins(lodge, fifth);
                case 6: return second == 0 && third == 0 && fourth == 0 && bounds(lodge, fifth);
                case 7: return second == 0 && third == 0 && Attempt.scraps(lodge, lastTwo);
                case 8: return lodge.masons.sum(OWED) >= group % 10000;
                case 9: return third == 0 && fourth == 0 && lodge.courses.has(second)
                        && lodge.stones.countBoth(COURSE, second, STATE, IS_SET) == fifth;
                default: return false;
            }
        }

        private static boolean begins(Lodge lodge, int frost) {
            if (frost > 1) {
                return false;
            }
            lodge.beginDay(frost == 1);
            return true;
        }

        private static boolean bounds(Lodge lodge, int bound) {
            lodge.bound = bound;
            return true;
        }
    }

    /** Plays the rounds of a simulation: an attempt that fails is what is left out. */
    private static final class Simulation {
        static void playRound(Lodge lodge, int r) {
            int m = remainder(r / 8, lodge.masons.size());
            switch (r % 8) {
                case 0:
                case 1:
                case 2:
                    Attempt.cuts(lodge, m, remainder(r / 64, lodge.courses.size()), r / 1024 % 10);
                    break;
                case 3:
                case 4:
                    Attempt.inspects(lodge, lodge.stones.firstWith(STATE, IS_CUT));
                    break;
                case 5:
                    setLowest(lodge);
                    break;
                case 6:
                    recutLowest(lodge, m);
                    break;
                default:
                    lodge.beginDay(r / 8 % 4 == 0);
                    break;
            }
        }

        private static int remainder(int value, int count) {
            return count > 0 ? value % count : NONE;
        }

        private static void setLowest(Lodge lodge) {
            for (int s = 0; s < lodge.stones.size(); s++) {
                if (lodge.hindrance(s) == 0) {
                    lodge.setStone(s);
                    return;
                }
            }
        }

        private static void recutLowest(Lodge lodge, int m) {
            int s = lodge.stones.firstWith(STATE, IS_REJECTED);
            if (!Attempt.recuts(lodge, m, s, lodge.courseForRecut(s))) {
                Attempt.scraps(lodge, s);
            }
        }
    }
}
