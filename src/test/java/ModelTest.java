import java.util.Random;

/** All promises together: long runs of calls, answered by the class and by Model alike. */
public final class ModelTest {
    private static final int RUNS = 3000;
    // An object is promised for 512 calls; telling the whole state at the end takes up to 234 of them, and the last
    // step of a run, a text that is written and read, up to 83.
    private static final int CALLS = 512 - 234 - 83;
    private static final int[] ODD = {-1, -9, 99, Integer.MIN_VALUE, Integer.MAX_VALUE};
    private static final String SIGNS = "L0123456789cmsfx";

    private final Random random;
    private final AshlarLodge x = new AshlarLodge();
    private final Model model = new Model();
    private final boolean calm;
    private int calls = 0;

    private ModelTest(int run) {
        random = new Random(run);
        calm = run % 2 == 0;
    }

    public static void main(String[] args) {
        for (int run = 0; run < RUNS; run++) {
            new ModelTest(run).play(run);
        }
        Check.end("ModelTest");
    }

    private void play(int run) {
        writeLodge();
        both("run " + run + ": load", x::load, model::load);
        both("run " + run + ": clearText", x::clearText, model::clearText);
        while (calls < CALLS) {
            // A calm run leaves out what throws away its work, so that courses become complete.
            int kind = random.nextInt(calm ? 39 : 42);
            String call = "run " + run + ", call " + calls + ", kind " + kind;
            if (kind < 20) {
                act(call, kind);
            } else if (kind < 31) {
                ask(call, kind);
            } else if (kind < 39) {
                foresee(call, kind);
            } else {
                keep(call, kind);
            }
        }
        Check.same("run " + run + ", state", Check.tell(x), tell());
    }

    private void both(String call, Check.Call ours, Check.Call theirs) {
        calls++;
        Check.same(call, Check.answer(ours), Check.answer(theirs));
    }

    /** Mostly from 0 to below the bound, now and then beyond. */
    private int some(int below) {
        int dice = random.nextInt(40);
        if (dice == 0) {
            return ODD[random.nextInt(ODD.length)];
        }
        return dice == 1 ? below : random.nextInt(Math.max(1, below));
    }

    private int course() {
        return some(model.state.courses.size());
    }

    private int mason() {
        return some(model.state.masons.size());
    }

    private int stone() {
        return some(model.state.stones.size());
    }

    /** Mostly a stone with this state, so that chains of actions come about. */
    private int stone(int state) {
        for (int i = 0; i < 30; i++) {
            int s = stone();
            if (s < 0 || s >= model.state.stones.size() || model.state.stones.get(s).state == state) {
                return s;
            }
        }
        return stone();
    }

    private void act(String call, int kind) {
        int c = course();
        int m = mason();
        int n = some(10);
        if (kind <= 3) {
            both(call, () -> x.cut(m, c, n), () -> model.cut(m, c, n));
        } else if (kind <= 7) {
            int s = stone(0);
            both(call, () -> x.inspect(s), () -> model.inspect(s));
        } else if (kind <= 10) {
            int s = stone(2);
            both(call, () -> x.recut(m, s, c), () -> model.recut(m, s, c));
        } else if (kind <= 13) {
            int s = stone(1);
            both(call, () -> x.set(s), () -> model.set(s));
        } else if (kind == 14) {
            int s = stone(2);
            both(call, () -> x.scrap(s), () -> model.scrap(s));
        } else if (kind <= 16) {
            boolean frost = random.nextInt(3) == 0;
            both(call, () -> x.nextDay(frost), () -> model.nextDay(frost));
        } else if (kind == 17) {
            both(call, x::pay, model::pay);
        } else if (kind == 18) {
            both(call, () -> x.setBound(n), () -> model.setBound(n));
        } else {
            change(call, m, n);
        }
    }

    private void change(String call, int m, int n) {
        int faces = some(7);
        int needed = calm ? 1 + some(2) : some(10);
        int strength = some(13);
        int kind = random.nextInt(4);
        if (kind == 0) {
            both(call, () -> x.addCourse(n, faces, needed), () -> model.addCourse(n, faces, needed));
        } else if (kind == 1) {
            both(call, () -> x.addMason(n, strength), () -> model.addMason(n, strength));
        } else {
            both(call, () -> x.setRate(m, n), () -> model.setRate(m, n));
        }
    }

    private void ask(String call, int kind) {
        int c = course();
        int m = mason();
        int s = stone();
        int what = some(12);
        if (kind == 20) {
            both(call, () -> x.about(what), () -> model.about(what));
        } else if (kind == 21) {
            both(call, () -> x.course(c, what), () -> model.course(c, what));
        } else if (kind == 22) {
            both(call, () -> x.mason(m, what), () -> model.mason(m, what));
        } else if (kind == 23) {
            both(call, () -> x.stone(s, what), () -> model.stone(s, what));
        } else if (kind == 24) {
            int accepted = stone(1);
            both(call, () -> x.whyNotSet(accepted), () -> model.whyNotSet(accepted));
        } else if (kind == 25) {
            int rejected = stone(2);
            both(call, () -> x.recutFor(rejected), () -> model.recutFor(rejected));
        } else if (kind == 26) {
            both(call, () -> x.cheapest(c), () -> model.cheapest(c));
        } else if (kind == 27) {
            both(call, x::costLeft, model::costLeft);
        } else if (kind == 28) {
            both(call, x::daysLeft, model::daysLeft);
        } else if (kind == 29) {
            both(call, x::canSet, model::canSet);
        } else {
            both(call, () -> x.wouldEarn(what), () -> model.wouldEarn(what));
            both(call, x::worstMark, model::worstMark);
        }
    }

    private void foresee(String call, int kind) {
        if (kind <= 35) {
            int n = some(4);
            long script = script(n);
            both(call + ", script " + script, () -> x.runScript(n, script), () -> model.runScript(n, script));
        } else {
            long seed = random.nextLong();
            int rounds = some(100);
            both(call, () -> x.simulate(seed, rounds), () -> model.simulate(seed, rounds));
        }
    }

    private long script(int n) {
        if (random.nextInt(20) == 0) {
            return random.nextLong() >> random.nextInt(60);
        }
        long script = 0;
        for (int i = 0; i < n && i < 3; i++) {
            script = script * 100000 + group();
        }
        return script;
    }

    private int group() {
        int m = Math.floorMod(mason(), 10);
        int c = Math.floorMod(course(), 10);
        int v = random.nextInt(10);
        if (random.nextInt(10) == 0) {
            return random.nextInt(100000);
        }
        switch (random.nextInt(9)) {
            case 0: return 10000 + 1000 * m + 100 * c + 10 * v;
            case 1: return 20000 + Math.floorMod(stone(0), 100);
            case 2: return 30000 + 1000 * m + 100 * c + Math.floorMod(stone(2), 100);
            case 3: return 40000 + Math.floorMod(stone(1), 100);
            case 4: return 50000 + random.nextInt(2);
            case 5: return 60000 + v;
            case 6: return 70000 + Math.floorMod(stone(2), 100);
            case 7: return 80000 + Math.min(9999, Math.max(0, model.state.owed() + random.nextInt(20) - 10));
            default: return 90000 + 1000 * c + random.nextInt(3);
        }
    }

    private void keep(String call, int kind) {
        int slot = some(2);
        if (kind == 39) {
            both(call, () -> x.save(slot), () -> model.save(slot));
        } else if (kind == 40) {
            both(call, x::undo, model::undo);
            if (random.nextInt(3) == 0) {
                both(call, () -> x.restore(slot), () -> model.restore(slot));
            }
        } else {
            writeText();
            both(call + ", text", x::errorPosition, model::errorPosition);
            if (random.nextInt(4) == 0) {
                both(call + ", load", x::load, model::load);
            }
            both(call + ", clearText", x::clearText, model::clearText);
        }
    }

    private void write(String text) {
        for (int i = 0; i < text.length(); i++) {
            int c = text.charAt(i);
            both("append(" + c + ")", () -> x.append(c), () -> model.append(c));
        }
    }

    private String lodge() {
        StringBuilder text = new StringBuilder("L").append(random.nextInt(10));
        int courses = 0;
        int masons = 0;
        int parts = random.nextInt(19);
        for (int i = 0; i < parts; i++) {
            int dice = random.nextInt(20);
            if (dice < 8 && courses > 0 && masons > 0) {
                text.append('s').append(random.nextInt(masons)).append(random.nextInt(courses));
                text.append(random.nextInt(10));
            } else if (dice < 14 && courses < 6) {
                courses++;
                text.append('c').append(1 + random.nextInt(9)).append(1 + random.nextInt(6));
                text.append(1 + random.nextInt(calm ? 2 : 9));
            } else if (dice < 19 && masons < 6) {
                masons++;
                int strength = 1 + random.nextInt(12);
                text.append('m').append(1 + random.nextInt(9)).append(strength / 10).append(strength % 10);
            } else if (dice == 19 && text.indexOf("f") < 0) {
                text.append('f');
            }
        }
        return text.toString();
    }

    private void writeLodge() {
        write(lodge());
    }

    private void writeText() {
        StringBuilder text = new StringBuilder(lodge());
        int changes = random.nextInt(3);
        for (int i = 0; i < changes; i++) {
            int place = random.nextInt(text.length());
            char sign = SIGNS.charAt(random.nextInt(SIGNS.length()));
            if (random.nextBoolean()) {
                text.setCharAt(place, sign);
            } else {
                text.insert(place, sign);
            }
        }
        text.setLength(Math.min(80, random.nextInt(4) == 0 ? random.nextInt(text.length() + 1) : text.length()));
        write(text.toString());
    }

    private String tell() {
        StringBuilder text = new StringBuilder("[");
        for (int what = 0; what <= 11; what++) {
            text.append(model.about(what)).append(", ");
        }
        for (int c = 0; c < model.state.courses.size(); c++) {
            for (int what = 0; what <= 6; what++) {
                text.append(model.course(c, what)).append(", ");
            }
        }
        for (int m = 0; m < model.state.masons.size(); m++) {
            for (int what = 0; what <= 5; what++) {
                text.append(model.mason(m, what)).append(", ");
            }
        }
        for (int s = 0; s < model.state.stones.size(); s++) {
            for (int what = 0; what <= 5; what++) {
                text.append(model.stone(s, what)).append(", ");
            }
        }
        text.setLength(text.length() - 2);
        return text.append(']').toString();
    }
}
