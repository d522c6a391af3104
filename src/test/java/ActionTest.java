/** Promises 11 to 21: the actions. */
public final class ActionTest {
    public static void main(String[] args) {
        addsCourses();
        addsMasons();
        changesRates();
        changesBound();
        cuts();
        refusesToCut();
        inspects();
        recuts();
        refusesToRecut();
        paysHalfForRecut();
        scraps();
        sets();
        pays();
        beginsDays();
        countsWithoutLimit();
        Check.end("ActionTest");
    }

    private static void addsCourses() {
        AshlarLodge x = new AshlarLodge();
        int[][] wrong = {{0, 1, 1}, {10, 1, 1}, {1, 0, 1}, {1, 7, 1}, {1, 1, 0}, {1, 1, 10}, {-1, 1, 1}};
        for (int i = 0; i < 6; i++) {
            for (int[] w : wrong) {
                Check.fails("addCourse", Check.ARGUMENT, () -> x.addCourse(w[0], w[1], w[2]));
            }
            Check.same("addCourse", x.addCourse(9 - i, 6 - i, i + 4), i);
            Check.same("its size", x.course(i, 0), 9 - i);
            Check.same("its faces", x.course(i, 1), 6 - i);
            Check.same("its stones", x.course(i, 2), i + 4);
        }
        Check.fails("a seventh course", Check.STATE, () -> x.addCourse(1, 1, 1));
        Check.fails("a wrong seventh course", Check.ARGUMENT, () -> x.addCourse(1, 1, 10));
        Check.same("states remembered", x.undo(), 5);
    }

    private static void addsMasons() {
        AshlarLodge x = new AshlarLodge();
        int[][] wrong = {{0, 1}, {10, 1}, {1, 0}, {1, 13}};
        for (int i = 0; i < 6; i++) {
            for (int[] w : wrong) {
                Check.fails("addMason", Check.ARGUMENT, () -> x.addMason(w[0], w[1]));
            }
            Check.same("addMason", x.addMason(9 - i, 12 - i), i);
            Check.same("rate", x.mason(i, 0), 9 - i);
            Check.same("strength", x.mason(i, 1), 12 - i);
            Check.same("no work on this day", x.mason(i, 2), 0);
            Check.same("nothing owed", x.mason(i, 3), 0);
        }
        Check.fails("a seventh mason", Check.STATE, () -> x.addMason(1, 1));
        Check.fails("a wrong seventh mason", Check.ARGUMENT, () -> x.addMason(1, 13));
        Check.same("states remembered", x.undo(), 5);
    }

    private static void changesRates() {
        AshlarLodge x = Check.lodge("L3c122m412m512s000");
        Check.fails("setRate(-1, 1)", Check.INDEX, () -> x.setRate(-1, 1));
        Check.fails("setRate(2, 1)", Check.INDEX, () -> x.setRate(2, 1));
        Check.fails("setRate(2, 10)", Check.INDEX, () -> x.setRate(2, 10));
        Check.fails("setRate(1, 10)", Check.ARGUMENT, () -> x.setRate(1, 10));
        Check.fails("setRate(1, 0)", Check.ARGUMENT, () -> x.setRate(1, 0));
        Check.fails("nothing is remembered", Check.STATE, x::undo);
        Check.same("setRate(1, 9)", x.setRate(1, 9), 5);
        Check.same("setRate(1, 1)", x.setRate(1, 1), 9);
        Check.same("setRate(0, 7)", x.setRate(0, 7), 4);
        Check.same("the rate", x.mason(0, 0), 7);
        Check.same("is the one that is paid", x.inspect(0), 14);
        x.setRate(0, 1);
        Check.same("what is owed stays", x.mason(0, 3), 14);
    }

    private static void changesBound() {
        AshlarLodge x = Check.lodge("L3c111m101s005s004s005s000");
        Check.fails("setBound(-1)", Check.ARGUMENT, () -> x.setBound(-1));
        Check.fails("setBound(10)", Check.ARGUMENT, () -> x.setBound(10));
        Check.same("setBound(4)", x.setBound(4), 3);
        Check.same("the bound", x.about(5), 4);
        Check.same("a fault above it", x.inspect(0), AshlarLodge.NONE);
        Check.same("a fault at it", x.inspect(1), 1);
        Check.same("setBound(9)", x.setBound(9), 4);
        Check.same("a fault below it", x.inspect(2), 1);
        Check.same("setBound(0)", x.setBound(0), 9);
        Check.same("a bound of 0", x.inspect(3), 1);
        Check.same("who is rejected stays so", x.stone(0, 3), 2);
    }

    private static void cuts() {
        AshlarLodge x = Check.lodge("L3c632c422m512m204");
        Check.same("cut(0, 0, 9)", x.cut(0, 0, 9), 0);
        Check.same("cut(1, 1, 0)", x.cut(1, 1, 0), 1);
        Check.same("state", Check.tell(x), "[2, 2, 2, 0, 0, 3, 0, 0, 0, 0, 0, 0,"
                + " 6, 3, 2, 0, 2, 1, 0, 4, 2, 2, 0, 2, 1, 0,"
                + " 5, 12, 9, 0, 0, 0, 2, 4, 2, 0, 0, 0,"
                + " 0, 0, 9, 0, 0, 0, 1, 1, 0, 0, 0, 1]");
        Check.same("all the work that is left", x.cut(1, 1, 3), 2);
        Check.same("no work is left", x.mason(1, 2), 0);
        Check.same("more than the course needs", x.cut(0, 1, 3) + x.cut(0, 1, 3), 7);
    }

    private static void refusesToCut() {
        AshlarLodge x = Check.lodge("L3c132c122m512m202");
        Check.fails("cut(2, 0, 0)", Check.INDEX, () -> x.cut(2, 0, 0));
        Check.fails("cut(-1, 0, 0)", Check.INDEX, () -> x.cut(-1, 0, 0));
        Check.fails("cut(0, 2, 0)", Check.INDEX, () -> x.cut(0, 2, 0));
        Check.fails("cut(0, -1, 0)", Check.INDEX, () -> x.cut(0, -1, 0));
        Check.fails("cut(0, 2, 10)", Check.INDEX, () -> x.cut(0, 2, 10));
        Check.fails("cut(2, 0, 10)", Check.INDEX, () -> x.cut(2, 0, 10));
        Check.fails("cut(0, 0, 10)", Check.ARGUMENT, () -> x.cut(0, 0, 10));
        Check.fails("cut(0, 0, -1)", Check.ARGUMENT, () -> x.cut(0, 0, -1));
        Check.fails("cut(1, 0, 10)", Check.ARGUMENT, () -> x.cut(1, 0, 10));
        Check.fails("too little work", Check.STATE, () -> x.cut(1, 0, 0));
        Check.fails("nothing is remembered", Check.STATE, x::undo);
        AshlarLodge full = Check.lodge("L3c111m112m112m112");
        for (int s = 0; s < 24; s++) {
            Check.same("cut", full.cut(s / 12, 0, s % 10), s);
        }
        Check.fails("a stone too many", Check.STATE, () -> full.cut(2, 0, 0));
        Check.same("the last stone", full.stone(23, 2), 3);
        Check.fails("a wrong stone too many", Check.ARGUMENT, () -> full.cut(2, 0, 10));
    }

    private static void inspects() {
        AshlarLodge x = Check.lodge("L3c639m512m204s003s104s102");
        Check.fails("inspect(-1)", Check.INDEX, () -> x.inspect(-1));
        Check.fails("inspect(3)", Check.INDEX, () -> x.inspect(3));
        Check.same("at the bound", x.inspect(0), 15);
        Check.same("above it", x.inspect(1), AshlarLodge.NONE);
        Check.same("below it", x.inspect(2), 6);
        Check.same("accepted", x.stone(0, 3), 1);
        Check.same("rejected", x.stone(1, 3), 2);
        Check.same("owed to 0", x.mason(0, 3), 15);
        Check.same("owed to 1", x.mason(1, 3), 6);
        Check.fails("inspect an accepted one", Check.STATE, () -> x.inspect(0));
        Check.fails("inspect a rejected one", Check.STATE, () -> x.inspect(1));
        x.scrap(1);
        Check.fails("inspect a scrapped one", Check.STATE, () -> x.inspect(1));
        x.set(0);
        Check.fails("inspect a set one", Check.STATE, () -> x.inspect(0));
        Check.same("frost does not stop inspections", afterFrost(x), 15);
    }

    private static int afterFrost(AshlarLodge x) {
        x.nextDay(false);
        int s = x.cut(0, 0, 0);
        x.nextDay(true);
        return x.inspect(s);
    }

    private static AshlarLodge rejected() {
        AshlarLodge x = Check.lodge("L0c962c632c422c651m912m203s009s001s019s020");
        for (int s = 0; s < 4; s++) {
            x.inspect(s);
        }
        return x;
    }

    private static void recuts() {
        AshlarLodge x = rejected();
        Check.same("less by 3", x.recut(1, 0, 1), 6);
        Check.same("half of 3 rounded up", x.mason(1, 2), 1);
        Check.same("not below 0", x.recut(1, 1, 2), 0);
        Check.same("half of 2", x.mason(1, 2), 0);
        Check.same("half of 5 rounded up", x.recut(0, 2, 2) + 100 * x.mason(0, 2), 7 + 1100);
        int[][] due = {{1, 1, 6, 0, 1, 0}, {2, 1, 0, 0, 1, 0}, {2, 0, 7, 0, 1, 0}, {2, 0, 0, 1, 0, 0}};
        for (int s = 0; s < due.length; s++) {
            for (int what = 0; what < 6; what++) {
                Check.same("stone(" + s + ", " + what + ") recut", x.stone(s, what), due[s][what]);
            }
        }
        x.inspect(0);
        Check.same("recut again", x.recut(0, 0, 2), 4);
        Check.same("twice", x.stone(0, 4), 2);
        Check.same("who cut it first", x.stone(0, 5), 0);
    }

    private static void refusesToRecut() {
        AshlarLodge x = rejected();
        Check.fails("recut(-1, 0, 1)", Check.INDEX, () -> x.recut(-1, 0, 1));
        Check.fails("recut(2, 0, 1)", Check.INDEX, () -> x.recut(2, 0, 1));
        Check.fails("recut(0, -1, 1)", Check.INDEX, () -> x.recut(0, -1, 1));
        Check.fails("recut(0, 4, 1)", Check.INDEX, () -> x.recut(0, 4, 1));
        Check.fails("recut(0, 0, -1)", Check.INDEX, () -> x.recut(0, 0, -1));
        Check.fails("recut(0, 0, 4)", Check.INDEX, () -> x.recut(0, 0, 4));
        Check.fails("recut(0, 3, 4)", Check.INDEX, () -> x.recut(0, 3, 4));
        Check.fails("an accepted stone", Check.STATE, () -> x.recut(0, 3, 2));
        Check.fails("the own course", Check.STATE, () -> x.recut(0, 0, 0));
        Check.fails("a course as large", Check.STATE, () -> x.recut(0, 2, 3));
        Check.fails("a larger course", Check.STATE, () -> x.recut(0, 2, 0));
        x.recut(1, 0, 3);
        Check.fails("no work is left", Check.STATE, () -> x.recut(1, 1, 2));
        Check.fails("a stone that is cut", Check.STATE, () -> x.recut(0, 0, 2));
        x.nextDay(true);
        Check.fails("frost", Check.STATE, () -> x.recut(0, 1, 2));
        x.nextDay(false);
        x.scrap(1);
        Check.fails("a scrapped stone", Check.STATE, () -> x.recut(0, 1, 2));
    }

    private static void paysHalfForRecut() {
        AshlarLodge x = Check.lodge("L5c919c839c719m512m110s009s008s009");
        for (int s = 0; s < 3; s++) {
            x.inspect(s);
        }
        x.recut(0, 0, 1);
        x.setBound(8);
        Check.same("half of 15", x.inspect(0), 7);
        Check.same("owed", x.mason(0, 3), 7);
        x.recut(1, 2, 2);
        Check.same("half of 1", x.inspect(2), 0);
        Check.same("is accepted", x.stone(2, 3), 1);
        x.setBound(5);
        x.recut(0, 1, 1);
        x.inspect(1);
        x.recut(1, 1, 2);
        x.setBound(9);
        x.setRate(1, 9);
        Check.same("half also if recut twice", x.inspect(1), 4);
    }

    private static void scraps() {
        AshlarLodge x = Check.lodge("L3c111m101s009s008s000s009");
        Check.fails("scrap(-1)", Check.INDEX, () -> x.scrap(-1));
        Check.fails("scrap(4)", Check.INDEX, () -> x.scrap(4));
        Check.fails("a stone that is cut", Check.STATE, () -> x.scrap(0));
        for (int s = 0; s < 4; s++) {
            x.inspect(s);
        }
        Check.fails("an accepted stone", Check.STATE, () -> x.scrap(2));
        Check.same("scrap(3)", x.scrap(3), 1);
        Check.same("scrap(0)", x.scrap(0), 2);
        Check.same("its state", x.stone(0, 3), 4);
        Check.fails("a scrapped stone", Check.STATE, () -> x.scrap(0));
        x.set(2);
        Check.fails("a stone that is set", Check.STATE, () -> x.scrap(2));
        Check.same("scrap(1)", x.scrap(1), 3);
    }

    private static void sets() {
        AshlarLodge x = Check.lodge("L3c112c111m101s000s000s000s010s009");
        Check.fails("set(-1)", Check.INDEX, () -> x.set(-1));
        Check.fails("set(5)", Check.INDEX, () -> x.set(5));
        Check.fails("a stone that is cut", Check.STATE, () -> x.set(0));
        for (int s = 0; s < 5; s++) {
            x.inspect(s);
        }
        Check.fails("above an open course", Check.STATE, () -> x.set(3));
        Check.fails("a rejected stone", Check.STATE, () -> x.set(4));
        Check.same("set(2)", x.set(2), 1);
        Check.fails("above a half course", Check.STATE, () -> x.set(3));
        Check.fails("set(2) again", Check.STATE, () -> x.set(2));
        x.nextDay(true);
        Check.fails("frost", Check.STATE, () -> x.set(0));
        x.nextDay(false);
        Check.same("set(0)", x.set(0), 2);
        Check.fails("a complete course", Check.STATE, () -> x.set(1));
        Check.same("set(3)", x.set(3), 1);
        Check.same("complete courses", x.about(6), 2);
        Check.same("stones that are set", x.about(7), 3);
        Check.same("state", x.stone(3, 3), 3);
    }

    private static void pays() {
        AshlarLodge x = Check.lodge("L3c639m512m204s003s101");
        Check.same("nothing", x.pay(), 0);
        x.inspect(0);
        x.inspect(1);
        Check.same("all", x.pay(), 21);
        Check.same("owed to 0", x.mason(0, 3), 0);
        Check.same("owed to 1", x.mason(1, 3), 0);
        Check.same("owed", x.about(9), 0);
        Check.same("paid", x.about(10), 21);
        x.nextDay(true);
        Check.same("for the frost", x.pay(), 14);
        Check.same("paid so far", x.about(10), 35);
    }

    private static void beginsDays() {
        AshlarLodge x = Check.lodge("L3c639m512m204");
        x.addMason(7, 9);
        x.cut(0, 0, 0);
        Check.same("nextDay(false)", x.nextDay(false), 1);
        Check.same("work is given, none added", x.mason(0, 2) + 100 * x.mason(1, 2) + 10000 * x.mason(2, 2), 90412);
        Check.same("nothing is owed", x.about(9), 0);
        Check.same("no frost", x.about(4) + 10 * x.about(11), 0);
        Check.same("nextDay(true)", x.nextDay(true), 2);
        Check.same("no work", x.mason(0, 2) + x.mason(1, 2) + x.mason(2, 2), 0);
        Check.same("twice the rate is owed", x.mason(0, 3) + 100 * x.mason(1, 3) + 10000 * x.mason(2, 3), 140410);
        Check.same("frost", x.about(4) + 10 * x.about(11), 11);
        x.setRate(0, 1);
        Check.same("nextDay(true)", x.nextDay(true), 3);
        Check.same("and more", x.mason(0, 3), 12);
        Check.same("nextDay(false)", x.nextDay(false), 4);
        Check.same("the frost is over", x.about(4) + 10 * x.about(11), 20);
        Check.same("work again", x.mason(0, 2), 12);
        Check.same("no more is owed", x.about(9), 12 + 8 + 28);
        Check.same("the day", x.about(3), 4);
    }

    /** The document names no greatest day and no greatest sum; 470 days of frost are about what 512 calls allow. */
    private static void countsWithoutLimit() {
        AshlarLodge x = Check.lodge("L3" + "m912".repeat(6));
        for (int day = 1; day <= 470; day++) {
            Check.same("nextDay(true)", x.nextDay(true), day);
        }
        Check.same("the day", x.about(3), 470);
        Check.same("days with frost", x.about(11), 470);
        Check.same("owed to one", x.mason(5, 3), 470 * 18);
        Check.same("owed to all", x.about(9), 470 * 6 * 18);
        Check.same("pay", x.pay(), 470 * 6 * 18);
        Check.same("paid", x.about(10), 470 * 6 * 18);
        Check.same("undo", x.undo(), 13);
        Check.same("owed to all again", x.about(9), 470 * 6 * 18);
    }
}
