import java.util.ArrayDeque;
import java.util.ArrayList;
import java.util.Deque;
import java.util.List;

/**
 * The document told a second time, as straight as can be, for ModelTest: with objects and lists, deep copies, and
 * searches where the class reckons. It takes the place of no hand-reckoned answer, but it sees long runs.
 */
final class Model {
    static final int NONE = -9;

    static final class Course {
        int size, faces, needed;
    }

    static final class Mason {
        int rate, strength, work, owed;
    }

    static final class Stone {
        Course course;
        Mason mark, first;
        int fault, state, recuts;
    }

    static final class State {
        final List<Course> courses = new ArrayList<>();
        final List<Mason> masons = new ArrayList<>();
        final List<Stone> stones = new ArrayList<>();
        int day, bound = 3, paid, frostDays;
        boolean frost;

        State copy() {
            State s = new State();
            for (Course c : courses) {
                s.add(c.size, c.faces, c.needed);
            }
            for (Mason m : masons) {
                Mason n = s.hire(m.rate, m.strength);
                n.work = m.work;
                n.owed = m.owed;
            }
            for (Stone t : stones) {
                Stone u = new Stone();
                u.course = s.courses.get(courses.indexOf(t.course));
                u.mark = s.masons.get(masons.indexOf(t.mark));
                u.first = s.masons.get(masons.indexOf(t.first));
                u.fault = t.fault;
                u.state = t.state;
                u.recuts = t.recuts;
                s.stones.add(u);
            }
            s.day = day;
            s.bound = bound;
            s.paid = paid;
            s.frostDays = frostDays;
            s.frost = frost;
            return s;
        }

        Course add(int size, int faces, int needed) {
            Course c = new Course();
            c.size = size;
            c.faces = faces;
            c.needed = needed;
            courses.add(c);
            return c;
        }

        Mason hire(int rate, int strength) {
            Mason m = new Mason();
            m.rate = rate;
            m.strength = strength;
            masons.add(m);
            return m;
        }

        Stone lay(Mason m, Course c, int fault) {
            Stone s = new Stone();
            s.course = c;
            s.mark = m;
            s.first = m;
            s.fault = fault;
            stones.add(s);
            return s;
        }

        int count(Course c, int state) {
            return (int) stones.stream().filter(s -> s.course == c && s.state == state).count();
        }

        int marks(Mason m, int state) {
            return (int) stones.stream().filter(s -> s.mark == m && s.state == state).count();
        }

        int all(int state) {
            return (int) stones.stream().filter(s -> s.state == state).count();
        }

        int owed() {
            return masons.stream().mapToInt(m -> m.owed).sum();
        }

        boolean complete(Course c) {
            return count(c, 3) == c.needed;
        }

        int lacks(Course c) {
            return Math.max(c.needed - count(c, 3) - count(c, 1), 0);
        }
    }

    State state = new State();
    private StringBuilder text = new StringBuilder();
    private Deque<State> remembered = new ArrayDeque<>();
    private State[] slots = new State[2];

    private static IllegalArgumentException argument() {
        return new IllegalArgumentException();
    }

    private static IllegalStateException illegalState() {
        return new IllegalStateException();
    }

    private static <T> T of(List<T> list, int index) {
        if (index < 0 || index >= list.size()) {
            throw new IndexOutOfBoundsException();
        }
        return list.get(index);
    }

    private static void within(int value, int low, int high) {
        if (value < low || value > high) {
            throw argument();
        }
    }

    private void remember() {
        remembered.addLast(state.copy());
        if (remembered.size() > 14) {
            remembered.removeFirst();
        }
    }

    int append(int c) {
        within(c, 0, 255);
        if (text.length() == 80) {
            throw illegalState();
        }
        return text.append((char) c).length();
    }

    int clearText() {
        int length = text.length();
        text = new StringBuilder();
        return length;
    }

    /** Whether the text, or the text with something behind it, is a lodge (of any length). */
    static boolean isBeginning(String text) {
        String[] ends = {"", "1", "11", "111", "01", "0", "00", "000", "L0", "0L", "10"};
        for (String end : ends) {
            if (read(text + end) != null) {
                return true;
            }
        }
        return false;
    }

    /** The lodge of the text; null if it is none. */
    static State read(String text) {
        if (!text.matches("L[0-9](c[1-9][1-6][1-9]|m[1-9](0[1-9]|1[0-2])|s[0-5][0-5][0-9]|f)*")) {
            return null;
        }
        State s = new State();
        s.bound = text.charAt(1) - '0';
        for (int i = 2; i < text.length(); i += text.charAt(i) == 'f' ? 1 : 4) {
            if (text.charAt(i) == 'f') {
                if (s.frost) {
                    return null;
                }
                s.frost = true;
                continue;
            }
            int a = text.charAt(i + 1) - '0';
            int b = text.charAt(i + 2) - '0';
            int c = text.charAt(i + 3) - '0';
            if (text.charAt(i) == 'c') {
                s.add(a, b, c);
            } else if (text.charAt(i) == 'm') {
                s.hire(a, 10 * b + c);
            } else if (a >= s.masons.size() || b >= s.courses.size()) {
                return null;
            } else {
                s.lay(s.masons.get(a), s.courses.get(b), c);
            }
        }
        if (s.courses.size() > 6 || s.masons.size() > 6 || s.stones.size() > 24) {
            return null;
        }
        for (Mason m : s.masons) {
            m.work = s.frost ? 0 : m.strength;
        }
        return s;
    }

    int errorPosition() {
        for (int i = 1; i <= text.length(); i++) {
            if (!isBeginning(text.substring(0, i))) {
                return i - 1;
            }
        }
        return read(text.toString()) == null ? text.length() : NONE;
    }

    int load() {
        State s = read(text.toString());
        if (s == null) {
            throw illegalState();
        }
        state = s;
        remembered.clear();
        slots = new State[2];
        return s.stones.size();
    }

    int about(int what) {
        within(what, 0, 11);
        int complete = (int) state.courses.stream().filter(c -> state.complete(c)).count();
        int[] all = {state.courses.size(), state.masons.size(), state.stones.size(), state.day, state.frost ? 1 : 0,
            state.bound, complete, state.all(3), state.all(4), state.owed(), state.paid, state.frostDays};
        return all[what];
    }

    int course(int c, int what) {
        Course k = of(state.courses, c);
        within(what, 0, 6);
        int[] all = {k.size, k.faces, k.needed, state.count(k, 3), state.lacks(k), state.count(k, 0),
            state.count(k, 2)};
        return all[what];
    }

    int mason(int m, int what) {
        Mason n = of(state.masons, m);
        within(what, 0, 5);
        int[] all = {n.rate, n.strength, n.work, n.owed, state.marks(n, 3), state.marks(n, 2) + state.marks(n, 4)};
        return all[what];
    }

    int stone(int s, int what) {
        Stone t = of(state.stones, s);
        within(what, 0, 5);
        int[] all = {state.courses.indexOf(t.course), state.masons.indexOf(t.mark), t.fault, t.state, t.recuts,
            state.masons.indexOf(t.first)};
        return all[what];
    }

    private static int why(State x, Stone t) {
        if (t.state != 1) {
            return 1;
        }
        if (x.frost) {
            return 2;
        }
        for (Course below : x.courses.subList(0, x.courses.indexOf(t.course))) {
            if (!x.complete(below)) {
                return 3;
            }
        }
        return x.complete(t.course) ? 4 : 0;
    }

    int whyNotSet(int s) {
        return why(state, of(state.stones, s));
    }

    int addCourse(int size, int faces, int needed) {
        within(size, 1, 9);
        within(faces, 1, 6);
        within(needed, 1, 9);
        if (state.courses.size() == 6) {
            throw illegalState();
        }
        remember();
        state.add(size, faces, needed);
        return state.courses.size() - 1;
    }

    int addMason(int rate, int strength) {
        within(rate, 1, 9);
        within(strength, 1, 12);
        if (state.masons.size() == 6) {
            throw illegalState();
        }
        remember();
        state.hire(rate, strength);
        return state.masons.size() - 1;
    }

    int setRate(int m, int rate) {
        Mason n = of(state.masons, m);
        within(rate, 1, 9);
        int previous = n.rate;
        remember();
        n.rate = rate;
        return previous;
    }

    int setBound(int bound) {
        within(bound, 0, 9);
        int previous = state.bound;
        remember();
        state.bound = bound;
        return previous;
    }

    int cut(int m, int c, int fault) {
        of(state.masons, m);
        of(state.courses, c);
        within(fault, 0, 9);
        State before = state.copy();
        int s = cut(state, m, c, fault);
        keep(before);
        return s;
    }

    private void keep(State before) {
        State after = state;
        state = before;
        remember();
        state = after;
    }

    private static int cut(State x, int m, int c, int fault) {
        Mason n = of(x.masons, m);
        Course k = of(x.courses, c);
        if (n.work < k.faces || x.stones.size() == 24) {
            throw illegalState();
        }
        n.work -= k.faces;
        x.lay(n, k, fault);
        return x.stones.size() - 1;
    }

    int inspect(int s) {
        State before = state.copy();
        int pence = inspect(state, s);
        keep(before);
        return pence;
    }

    private static int inspect(State x, int s) {
        Stone t = of(x.stones, s);
        if (t.state != 0) {
            throw illegalState();
        }
        if (t.fault > x.bound) {
            t.state = 2;
            return NONE;
        }
        int pence = t.course.faces * t.mark.rate;
        if (t.recuts > 0) {
            pence /= 2;
        }
        t.state = 1;
        t.mark.owed += pence;
        return pence;
    }

    int recut(int m, int s, int c) {
        State before = state.copy();
        int fault = recut(state, m, s, c);
        keep(before);
        return fault;
    }

    private static int recut(State x, int m, int s, int c) {
        Mason n = of(x.masons, m);
        Stone t = of(x.stones, s);
        Course k = of(x.courses, c);
        int work = k.faces / 2 + k.faces % 2;
        if (t.state != 2 || k.size >= t.course.size || n.work < work) {
            throw illegalState();
        }
        n.work -= work;
        t.fault = Math.max(t.fault - t.course.size + k.size, 0);
        t.course = k;
        t.mark = n;
        t.state = 0;
        t.recuts++;
        return t.fault;
    }

    int scrap(int s) {
        State before = state.copy();
        int scrapped = scrap(state, s);
        keep(before);
        return scrapped;
    }

    private static int scrap(State x, int s) {
        Stone t = of(x.stones, s);
        if (t.state != 2) {
            throw illegalState();
        }
        t.state = 4;
        return x.all(4);
    }

    int set(int s) {
        State before = state.copy();
        int there = set(state, s);
        keep(before);
        return there;
    }

    private static int set(State x, int s) {
        Stone t = of(x.stones, s);
        if (why(x, t) != 0) {
            throw illegalState();
        }
        t.state = 3;
        return x.count(t.course, 3);
    }

    int pay() {
        remember();
        int owed = state.owed();
        state.masons.forEach(m -> m.owed = 0);
        state.paid += owed;
        return owed;
    }

    int nextDay(boolean frost) {
        remember();
        return begin(state, frost);
    }

    private static int begin(State x, boolean frost) {
        x.frost = frost;
        x.day++;
        x.frostDays += frost ? 1 : 0;
        for (Mason m : x.masons) {
            m.work = frost ? 0 : m.strength;
            m.owed += frost ? 2 * m.rate : 0;
        }
        return x.day;
    }

    int undo() {
        if (remembered.isEmpty()) {
            throw illegalState();
        }
        state = remembered.removeLast();
        return remembered.size();
    }

    int recutFor(int s) {
        of(state.stones, s);
        return recutFor(state, s);
    }

    private static int recutFor(State x, int s) {
        Stone t = of(x.stones, s);
        if (t.state == 2) {
            for (int size = t.course.size - 1; size > 0; size--) {
                for (int c = 0; c < x.courses.size(); c++) {
                    if (x.courses.get(c).size == size && x.lacks(x.courses.get(c)) > 0) {
                        return c;
                    }
                }
            }
        }
        return NONE;
    }

    int cheapest(int c) {
        Course k = of(state.courses, c);
        for (int rate = 1; rate <= 9; rate++) {
            for (Mason m : state.masons) {
                if (m.rate == rate && m.work >= k.faces) {
                    return state.masons.indexOf(m);
                }
            }
        }
        return NONE;
    }

    int costLeft() {
        int faces = state.courses.stream().mapToInt(c -> state.lacks(c) * c.faces).sum();
        int rate = state.masons.stream().mapToInt(m -> m.rate).min().orElse(0);
        return faces == 0 ? 0 : rate == 0 ? NONE : faces * rate;
    }

    int daysLeft() {
        State x = state.copy();
        int[] lacks = x.courses.stream().mapToInt(x::lacks).toArray();
        int sum = 0;
        for (int lack : lacks) {
            sum += lack;
        }
        for (int day = 0; day < 99; day++) {
            if (sum == 0) {
                return day;
            }
            for (Mason m : x.masons) {
                if (day > 0) {
                    m.work = m.strength;
                }
                for (int c = 0; c < lacks.length; c++) {
                    while (lacks[c] > 0 && x.courses.get(c).faces <= m.work) {
                        lacks[c]--;
                        sum--;
                        m.work -= x.courses.get(c).faces;
                    }
                }
            }
        }
        return sum == 0 ? 99 : NONE;
    }

    /** Sets what can be set, whatever it is, until nothing can be. */
    int canSet() {
        State x = state.copy();
        int set = 0;
        for (int s = x.stones.size() - 1; s >= 0; s--) {
            if (why(x, x.stones.get(s)) == 0) {
                set(x, s);
                set++;
                s = x.stones.size();
            }
        }
        return set;
    }

    int wouldEarn(int bound) {
        within(bound, 0, 9);
        State x = state.copy();
        x.bound = bound;
        int owed = x.owed();
        for (int s = 0; s < x.stones.size(); s++) {
            if (x.stones.get(s).state == 0) {
                inspect(x, s);
            }
        }
        return x.owed() - owed;
    }

    int worstMark() {
        for (int most = 24; most > 0; most--) {
            for (Mason m : state.masons) {
                if (state.marks(m, 2) + state.marks(m, 4) == most) {
                    return state.masons.indexOf(m);
                }
            }
        }
        return NONE;
    }

    int runScript(int n, long script) {
        within(n, 1, 3);
        String digits = Long.toString(script);
        if (script < 0 || digits.length() > 5 * n) {
            throw argument();
        }
        digits = "0".repeat(5 * n - digits.length()) + digits;
        State x = state.copy();
        for (int i = 0; i < n; i++) {
            if (!run(x, digits.substring(5 * i, 5 * i + 5))) {
                return i;
            }
        }
        return NONE;
    }

    private static boolean run(State x, String group) {
        int[] d = group.chars().map(c -> c - '0').toArray();
        int xy = 10 * d[3] + d[4];
        try {
            if (group.matches("1...0")) {
                cut(x, d[1], d[2], d[3]);
            } else if (group.matches("200..")) {
                inspect(x, xy);
            } else if (group.matches("3....")) {
                recut(x, d[1], xy, d[2]);
            } else if (group.matches("400..")) {
                set(x, xy);
            } else if (group.matches("5000[01]")) {
                begin(x, d[4] == 1);
            } else if (group.matches("6000.")) {
                x.bound = d[4];
            } else if (group.matches("700..")) {
                scrap(x, xy);
            } else if (group.matches("8....")) {
                return x.owed() >= Integer.parseInt(group.substring(1));
            } else {
                return group.matches("9.00.") && x.count(of(x.courses, d[1]), 3) == d[4];
            }
            return true;
        } catch (IllegalStateException | IndexOutOfBoundsException e) {
            return false;
        }
    }

    int simulate(long seed, int m) {
        within(m, 1, 99);
        State x = state.copy();
        long number = seed;
        for (int i = 0; i < m; i++) {
            number = number * 6364136223846793005L + 1442695040888963407L;
            try {
                round(x, (int) (number >>> 33));
            } catch (IllegalStateException | IndexOutOfBoundsException e) {
                continue;
            }
        }
        return 10000 * x.all(3) + Math.min(9999, x.owed());
    }

    private static int lowest(State x, int state) {
        for (Stone t : x.stones) {
            if (t.state == state) {
                return x.stones.indexOf(t);
            }
        }
        return NONE;
    }

    private static void round(State x, int r) {
        int m = x.masons.isEmpty() ? NONE : r / 8 % x.masons.size();
        int kind = r % 8;
        if (kind <= 2) {
            cut(x, m, x.courses.isEmpty() ? NONE : r / 64 % x.courses.size(), r / 1024 % 10);
        } else if (kind <= 4) {
            inspect(x, lowest(x, 0));
        } else if (kind == 5) {
            for (Stone t : x.stones) {
                if (why(x, t) == 0) {
                    set(x, x.stones.indexOf(t));
                    return;
                }
            }
        } else if (kind == 6) {
            int s = lowest(x, 2);
            try {
                recut(x, m, s, recutFor(x, s));
            } catch (IllegalStateException | IndexOutOfBoundsException e) {
                scrap(x, s);
            }
        } else {
            begin(x, r / 8 % 4 == 0);
        }
    }

    int save(int slot) {
        if (slot != 0 && slot != 1) {
            throw new IndexOutOfBoundsException();
        }
        slots[slot] = state.copy();
        return state.day;
    }

    int restore(int slot) {
        if (slot != 0 && slot != 1) {
            throw new IndexOutOfBoundsException();
        }
        if (slots[slot] == null) {
            throw illegalState();
        }
        state = slots[slot].copy();
        remembered.clear();
        return state.day;
    }
}
