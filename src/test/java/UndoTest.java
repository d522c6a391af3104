/** Promise 22, and what the terms say of actions: which calls are remembered, and how many. */
public final class UndoTest {
    private interface Action {
        void on(AshlarLodge x);
    }

    public static void main(String[] args) {
        takesBackEachAction();
        remembersWhatChangesNothing();
        remembersFourteen();
        leavesTextAndSlots();
        failedCallsAreNotRemembered();
        answersAreNotRemembered();
        Check.end("UndoTest");
    }

    /** Stone 0 is accepted, 1 rejected, 2 cut. */
    private static AshlarLodge start() {
        AshlarLodge x = Check.lodge("L3c922c622m512m204s000s009s001");
        x.inspect(0);
        x.inspect(1);
        return x;
    }

    private static void takesBackEachAction() {
        Action[] actions = {x -> x.addCourse(1, 1, 1), x -> x.addMason(1, 1), x -> x.setRate(0, 9), x -> x.setBound(0),
            x -> x.cut(0, 1, 4), x -> x.inspect(2), x -> x.recut(1, 1, 1), x -> x.scrap(1), x -> x.set(0), x -> x.pay(),
            x -> x.nextDay(false), x -> x.nextDay(true)};
        for (int i = 0; i < actions.length; i++) {
            AshlarLodge x = start();
            String before = Check.tell(x);
            actions[i].on(x);
            Check.same("action " + i + " changes something", Check.tell(x).equals(before), false);
            Check.same("undo of action " + i, x.undo(), 2);
            Check.same("state behind it", Check.tell(x), before);
        }
    }

    private static void remembersWhatChangesNothing() {
        AshlarLodge x = Check.lodge("L3m512");
        x.setBound(3);
        x.setRate(0, 5);
        x.pay();
        Check.same("undo", x.undo(), 2);
        Check.same("undo", x.undo(), 1);
        Check.same("undo", x.undo(), 0);
        Check.failsOn(x, "undo of none", Check.STATE, x::undo);
    }

    private static void remembersFourteen() {
        AshlarLodge x = new AshlarLodge();
        for (int day = 1; day <= 40; day++) {
            x.nextDay(day % 3 == 0);
        }
        for (int left = 13; left >= 0; left--) {
            Check.same("undo", x.undo(), left);
            Check.same("day", x.about(3), 26 + left);
            Check.same("frost", x.about(4), (26 + left) % 3 == 0 ? 1 : 0);
        }
        Check.failsOn(x, "undo of the forgotten", Check.STATE, x::undo);
        x.nextDay(true);
        x.nextDay(true);
        Check.same("undo of new ones", x.undo(), 1);
        x.setBound(8);
        Check.same("undo behind an undo", x.undo(), 1);
        Check.same("the day then", x.about(3), 27);
        Check.same("undo", x.undo(), 0);
        Check.same("the day then", x.about(3), 26);
        AshlarLodge exact = new AshlarLodge();
        for (int i = 0; i < 14; i++) {
            exact.nextDay(false);
        }
        for (int i = 13; i >= 0; i--) {
            Check.same("undo of just 14", exact.undo(), i);
        }
        Check.same("the first day", exact.about(3), 0);
    }

    private static void leavesTextAndSlots() {
        AshlarLodge x = new AshlarLodge();
        x.nextDay(false);
        x.append('L');
        x.save(0);
        x.nextDay(false);
        x.save(1);
        Check.same("undo", x.undo(), 1);
        Check.same("undo", x.undo(), 0);
        Check.same("the text stays", x.clearText(), 1);
        Check.same("slot 1 stays", x.restore(1), 2);
        Check.same("slot 0 stays", x.restore(0), 1);
    }

    private static void failedCallsAreNotRemembered() {
        AshlarLodge x = start();
        Check.fails("addCourse", Check.ARGUMENT, () -> x.addCourse(0, 1, 1));
        Check.fails("addMason", Check.ARGUMENT, () -> x.addMason(0, 1));
        Check.fails("setRate", Check.ARGUMENT, () -> x.setRate(0, 0));
        Check.fails("setBound", Check.ARGUMENT, () -> x.setBound(10));
        Check.fails("cut", Check.ARGUMENT, () -> x.cut(0, 0, 10));
        Check.fails("inspect", Check.STATE, () -> x.inspect(0));
        Check.fails("recut", Check.STATE, () -> x.recut(0, 0, 1));
        Check.fails("scrap", Check.STATE, () -> x.scrap(0));
        Check.fails("set", Check.STATE, () -> x.set(1));
        Check.fails("load", Check.INDEX, () -> x.save(2));
        Check.same("undo", x.undo(), 1);
        Check.same("takes back the second inspection", x.stone(1, 3), 0);
    }

    private static void answersAreNotRemembered() {
        AshlarLodge x = start();
        x.errorPosition();
        x.append('f');
        x.recutFor(1);
        x.cheapest(0);
        x.costLeft();
        x.daysLeft();
        x.canSet();
        x.wouldEarn(9);
        x.worstMark();
        x.runScript(1, 50000);
        x.simulate(1, 99);
        x.save(0);
        x.clearText();
        Check.same("undo", x.undo(), 1);
    }
}
