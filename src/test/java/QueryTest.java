/** Promises 1 and 6 to 10: a new object, and what there is. */
public final class QueryTest {
    private static final int[] BEYOND = {-1, Integer.MIN_VALUE, Integer.MAX_VALUE};

    public static void main(String[] args) {
        newObject();
        about();
        course();
        mason();
        stone();
        refuses();
        whyNotSet();
        Check.end("QueryTest");
    }

    private static void newObject() {
        AshlarLodge x = new AshlarLodge();
        Check.same("a new object", Check.tell(x), "[0, 0, 0, 0, 0, 3, 0, 0, 0, 0, 0, 0]");
        Check.same("its text", x.clearText(), 0);
        Check.fails("undo", Check.STATE, x::undo);
        Check.fails("restore(0)", Check.STATE, () -> x.restore(0));
        Check.fails("restore(1)", Check.STATE, () -> x.restore(1));
    }

    /** Two courses, the lower one complete; stones in each of the states; a day with frost behind it. */
    private static AshlarLodge worked() {
        AshlarLodge x = Check.lodge("L3c831c622c411m512m204s000s111s019s102s118s010s014");
        x.inspect(0);
        x.set(0);
        x.inspect(1);
        x.inspect(2);
        x.inspect(4);
        x.scrap(4);
        x.inspect(6);
        x.pay();
        x.nextDay(true);
        x.nextDay(false);
        return x;
    }

    private static void about() {
        AshlarLodge x = worked();
        int[] due = {3, 2, 7, 2, 0, 3, 1, 1, 1, 14, 19, 1};
        for (int i = 0; i < due.length; i++) {
            Check.same("about(" + i + ")", x.about(i), due[i]);
        }
        x.nextDay(true);
        Check.same("about(4) with frost", x.about(4), 1);
        Check.same("about(11) with frost", x.about(11), 2);
        Check.fails("about(-1)", Check.ARGUMENT, () -> x.about(-1));
        Check.fails("about(12)", Check.ARGUMENT, () -> x.about(12));
        Check.same("frost of day 0 is not counted", Check.lodge("L3f").about(11), 0);
    }

    private static void course() {
        AshlarLodge x = worked();
        int[][] due = {{8, 3, 1, 1, 0, 1, 0}, {6, 2, 2, 0, 1, 1, 2}, {4, 1, 1, 0, 1, 0, 0}};
        for (int c = 0; c < due.length; c++) {
            for (int what = 0; what < 7; what++) {
                Check.same("course(" + c + ", " + what + ")", x.course(c, what), due[c][what]);
            }
        }
        AshlarLodge many = Check.lodge("L3c111m101s000s000s000");
        many.inspect(0);
        many.inspect(1);
        Check.same("a course lacks no less than 0", many.course(0, 4), 0);
        many.set(1);
        Check.same("nor if it is complete", many.course(0, 4), 0);
    }

    private static void mason() {
        AshlarLodge x = worked();
        int[][] due = {{5, 12, 12, 10, 1, 2}, {2, 4, 4, 4, 0, 1}};
        for (int m = 0; m < due.length; m++) {
            for (int what = 0; what < 6; what++) {
                Check.same("mason(" + m + ", " + what + ")", x.mason(m, what), due[m][what]);
            }
        }
        x.recut(1, 2, 2);
        Check.same("the mark goes over to who recuts", x.mason(0, 5), 1);
    }

    private static void stone() {
        AshlarLodge x = worked();
        int[][] due = {{0, 0, 0, 3, 0, 0}, {1, 1, 1, 1, 0, 1}, {1, 0, 9, 2, 0, 0}, {0, 1, 2, 0, 0, 1},
            {1, 1, 8, 4, 0, 1}, {1, 0, 0, 0, 0, 0}, {1, 0, 4, 2, 0, 0}};
        for (int s = 0; s < due.length; s++) {
            for (int what = 0; what < 6; what++) {
                Check.same("stone(" + s + ", " + what + ")", x.stone(s, what), due[s][what]);
            }
        }
        x.recut(1, 2, 2);
        int[] recut = {2, 1, 7, 0, 1, 0};
        for (int what = 0; what < 6; what++) {
            Check.same("stone(2, " + what + ") recut", x.stone(2, what), recut[what]);
        }
    }

    private static void refuses() {
        AshlarLodge x = worked();
        for (int beyond : BEYOND) {
            Check.fails("course(" + beyond + ", 0)", Check.INDEX, () -> x.course(beyond, 0));
            Check.fails("mason(" + beyond + ", 0)", Check.INDEX, () -> x.mason(beyond, 0));
            Check.fails("stone(" + beyond + ", 0)", Check.INDEX, () -> x.stone(beyond, 0));
            Check.fails("whyNotSet(" + beyond + ")", Check.INDEX, () -> x.whyNotSet(beyond));
            Check.fails("course(0, " + beyond + ")", Check.ARGUMENT, () -> x.course(0, beyond));
            Check.fails("mason(0, " + beyond + ")", Check.ARGUMENT, () -> x.mason(0, beyond));
            Check.fails("stone(0, " + beyond + ")", Check.ARGUMENT, () -> x.stone(0, beyond));
        }
        Check.fails("course(3, 0)", Check.INDEX, () -> x.course(3, 0));
        Check.fails("course(3, 7)", Check.INDEX, () -> x.course(3, 7));
        Check.fails("course(2, 7)", Check.ARGUMENT, () -> x.course(2, 7));
        Check.fails("mason(2, 0)", Check.INDEX, () -> x.mason(2, 0));
        Check.fails("mason(2, 6)", Check.INDEX, () -> x.mason(2, 6));
        Check.fails("mason(1, 6)", Check.ARGUMENT, () -> x.mason(1, 6));
        Check.fails("stone(7, 0)", Check.INDEX, () -> x.stone(7, 0));
        Check.fails("stone(7, 6)", Check.INDEX, () -> x.stone(7, 6));
        Check.fails("stone(6, 6)", Check.ARGUMENT, () -> x.stone(6, 6));
        Check.fails("whyNotSet(7)", Check.INDEX, () -> x.whyNotSet(7));
    }

    private static void whyNotSet() {
        AshlarLodge x = Check.lodge("L3c111c111m101s000s000s010s010s009");
        Check.asks(x, "of a stone that is cut", 1, () -> x.whyNotSet(0));
        for (int s = 0; s < 5; s++) {
            x.inspect(s);
        }
        Check.same("of an accepted one", x.whyNotSet(0), 0);
        Check.same("above an open course", x.whyNotSet(2), 3);
        Check.same("of a rejected one", x.whyNotSet(4), 1);
        x.nextDay(true);
        Check.same("with frost", x.whyNotSet(0), 2);
        Check.same("with frost, above an open course", x.whyNotSet(2), 2);
        Check.same("with frost, of a rejected one", x.whyNotSet(4), 1);
        x.nextDay(false);
        x.set(0);
        Check.same("of one that is set", x.whyNotSet(0), 1);
        Check.same("of a complete course", x.whyNotSet(1), 4);
        Check.same("above a complete course", x.whyNotSet(2), 0);
        x.scrap(4);
        Check.same("of a scrapped one", x.whyNotSet(4), 1);
        x.set(3);
        Check.same("of the upper complete course", x.whyNotSet(2), 4);
        Check.same("of the lower complete course", x.whyNotSet(1), 4);
    }
}
