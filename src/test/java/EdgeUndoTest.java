/** Promise 22 and the terms of actions: a test for each sentence that names a boundary, quoted above it. */
public final class EdgeUndoTest {
    private static final Twin.Use[] ACTIONS = {x -> x.addCourse(1, 1, 1), x -> x.addMason(1, 1), x -> x.setRate(0, 5),
        x -> x.setBound(3), x -> x.cut(0, 0, 0), x -> x.inspect(3), x -> x.recut(0, 1, 1), x -> x.scrap(1),
        x -> x.set(4), x -> x.pay(), x -> x.nextDay(false), x -> x.nextDay(true)};
    private static final Twin.Use[] REFUSED = {x -> x.addCourse(0, 1, 1), x -> x.addMason(0, 1), x -> x.setRate(0, 0),
        x -> x.setBound(10), x -> x.cut(0, 0, 10), x -> x.inspect(0), x -> x.recut(0, 0, 1), x -> x.scrap(0),
        x -> x.set(0), x -> x.append(256), x -> x.save(2), x -> x.restore(1), x -> x.restore(2), x -> x.about(12),
        x -> x.runScript(0, 0), x -> x.simulate(0, 0), x -> x.wouldEarn(10), x -> x.cheapest(-1), x -> x.recutFor(-1)};
    private static final Twin.Use[] OTHERS = {x -> x.append('f'), x -> x.clearText(), x -> x.errorPosition(),
        x -> x.about(0), x -> x.course(0, 0), x -> x.mason(0, 0), x -> x.stone(0, 0), x -> x.whyNotSet(0),
        x -> x.recutFor(1), x -> x.cheapest(0), x -> x.costLeft(), x -> x.daysLeft(), x -> x.canSet(),
        x -> x.wouldEarn(9), x -> x.worstMark(), x -> x.runScript(1, 50000), x -> x.simulate(1, 9), x -> x.save(0),
        x -> x.save(1)};

    public static void main(String[] args) {
        refusesIfNoneIsRemembered();
        refusesBehindTheLastOne();
        eachActionIsRemembered();
        actionsThatChangeNothingAreRemembered();
        undoIsNoAction();
        refusedCallsAreNoActions();
        otherCallsAreNoActions();
        fourteenAreRemembered();
        theFifteenthForgetsTheOldest();
        theOldestIsForgottenAgainAndAgain();
        thereIsRoomBehindUndo();
        refusedCallsForgetNothing();
        otherCallsForgetNothing();
        loadAndRestoreAreNoActions();
        textAndSlotsAreNotTakenBack();
        Check.end("EdgeUndoTest");
    }

    private static AshlarLodge days(int days) {
        AshlarLodge x = new AshlarLodge();
        for (int day = 1; day <= days; day++) {
            x.nextDay(day % 2 == 0);
        }
        return x;
    }

    /** "IllegalStateException if none is remembered": in a new object, behind load, behind restore. */
    private static void refusesIfNoneIsRemembered() {
        Twin.refuses("undo of a new object", Check.STATE, AshlarLodge::new, AshlarLodge::undo);
        Twin.refuses("undo behind load", Check.STATE, () -> Check.lodge("L3c111m101s000"), AshlarLodge::undo);
        Twin.refuses("undo behind restore", Check.STATE, Twin::full, AshlarLodge::undo);
    }

    /** "Returns how many states are still remembered": 0 behind the last one, and then it is refused. */
    private static void refusesBehindTheLastOne() {
        Twin.answers("undo of one", 0, () -> days(1), AshlarLodge::undo);
        Twin.answers("undo of two", 1, () -> days(2), AshlarLodge::undo);
        AshlarLodge x = days(1);
        x.undo();
        Check.failsOn(x, "undo behind the last one", Check.STATE, x::undo);
        Check.same("the day", x.about(3), 0);
    }

    /** "Each call of one of them that does not throw an exception is an action". */
    private static void eachActionIsRemembered() {
        for (int i = 0; i < ACTIONS.length; i++) {
            AshlarLodge x = Twin.busy();
            ACTIONS[i].on(x);
            Check.same("undo of the action " + i, x.undo(), 2);
            Check.same("state behind it", Check.tell(x), Check.tell(Twin.busy()));
        }
    }

    /** "also if nothing becomes different". */
    private static void actionsThatChangeNothingAreRemembered() {
        AshlarLodge x = Check.lodge("L3m512");
        String before = Check.tell(x);
        x.setBound(3);
        x.setRate(0, 5);
        x.pay();
        Check.same("nothing is different", Check.tell(x), before);
        for (int left = 2; left >= 0; left--) {
            Check.same("undo", x.undo(), left);
            Check.same("nothing is different", Check.tell(x), before);
        }
        Check.fails("undo of none", Check.STATE, x::undo);
    }

    /** "(undo is none)". */
    private static void undoIsNoAction() {
        AshlarLodge x = days(3);
        for (int left = 2; left >= 0; left--) {
            Check.same("undo", x.undo(), left);
            Check.same("the day", x.about(3), left);
        }
        Check.fails("undo of an undo", Check.STATE, x::undo);
    }

    /** "A call that throws an exception changes nothing": no state is remembered. */
    private static void refusedCallsAreNoActions() {
        for (int i = 0; i < REFUSED.length; i++) {
            AshlarLodge x = Twin.busy();
            Twin.Use refused = REFUSED[i];
            Check.same("call " + i + " is refused", Check.answer(() -> refused.on(x)) instanceof Integer, false);
            Check.same("undo behind it", x.undo(), 1);
        }
    }

    /** "Each call of one of them": a call of another method is no action. */
    private static void otherCallsAreNoActions() {
        for (int i = 0; i < OTHERS.length; i++) {
            AshlarLodge x = Twin.busy();
            OTHERS[i].on(x);
            Check.same("undo behind the call " + i, x.undo(), 1);
        }
    }

    private static void takesBack(AshlarLodge x, int left, int day) {
        Check.same("undo", x.undo(), left);
        Check.same("the day", x.about(3), day);
        Check.same("frost", x.about(4), day > 0 && day % 2 == 0 ? 1 : 0);
        Check.same("days with frost", x.about(11), day / 2);
    }

    private static void takesBackAll(AshlarLodge x, int remembered, int day) {
        for (int i = 1; i <= remembered; i++) {
            takesBack(x, remembered - i, day - i);
        }
        Check.fails("undo of what is forgotten", Check.STATE, x::undo);
        Check.same("the day", x.about(3), day - remembered);
    }

    /** "At most 14 states are remembered": 13 and 14 of them. */
    private static void fourteenAreRemembered() {
        takesBackAll(days(13), 13, 13);
        takesBackAll(days(14), 14, 14);
    }

    /** "when one more is remembered, the oldest one is forgotten". */
    private static void theFifteenthForgetsTheOldest() {
        takesBackAll(days(15), 14, 15);
        takesBackAll(days(16), 14, 16);
    }

    /** The same sentence: each of the remembered ones was forgotten for another, once, twice, and more. */
    private static void theOldestIsForgottenAgainAndAgain() {
        for (int actions : new int[] {27, 28, 29, 42, 43, 100}) {
            takesBackAll(days(actions), 14, actions);
        }
    }

    /** The same sentence: what was taken back is not remembered any more. */
    private static void thereIsRoomBehindUndo() {
        AshlarLodge x = days(20);
        for (int i = 0; i < 5; i++) {
            takesBack(x, 13 - i, 19 - i);
        }
        for (int day = 16; day <= 20; day++) {
            x.nextDay(day % 2 == 0);
        }
        takesBackAll(x, 14, 20);
        for (int day = 7; day <= 20; day++) {
            x.nextDay(day % 2 == 0);
        }
        takesBackAll(x, 14, 20);
    }

    /** "A call that throws an exception changes nothing": 14 states stay remembered. */
    private static void refusedCallsForgetNothing() {
        AshlarLodge x = days(14);
        for (Twin.Use refused : REFUSED) {
            Check.same("is refused", Check.answer(() -> refused.on(x)) instanceof Integer, false);
        }
        takesBackAll(x, 14, 14);
    }

    /** "these and all following methods up to the save slots change nothing"; so do the text and save. */
    private static void otherCallsForgetNothing() {
        AshlarLodge x = Check.lodge("L3c911m101s009s000");
        for (int i = 0; i < 14; i++) {
            x.setBound(i % 9);
        }
        for (Twin.Use other : OTHERS) {
            other.on(x);
        }
        for (int left = 13; left > 0; left--) {
            Check.same("undo", x.undo(), left);
            Check.same("the bound", x.about(5), (left - 1) % 9);
        }
        Check.same("undo of the oldest", x.undo(), 0);
        Check.same("the bound of the text", x.about(5), 3);
    }

    /** "load and restore are not actions." */
    private static void loadAndRestoreAreNoActions() {
        AshlarLodge x = Check.lodge("L3");
        Check.fails("undo behind load", Check.STATE, x::undo);
        x.save(1);
        x.nextDay(true);
        x.restore(1);
        Check.fails("undo behind restore", Check.STATE, x::undo);
        x.nextDay(true);
        Check.same("undo of the action behind both", x.undo(), 0);
    }

    /** "the state, which consists of everything but the text and the save slots". */
    private static void textAndSlotsAreNotTakenBack() {
        AshlarLodge x = new AshlarLodge();
        x.nextDay(true);
        x.append('L');
        x.nextDay(false);
        x.append('3');
        x.save(1);
        x.nextDay(true);
        for (int left = 2; left >= 0; left--) {
            Check.same("undo", x.undo(), left);
        }
        Check.same("the day", x.about(3), 0);
        Check.same("errorPosition", x.errorPosition(), AshlarLodge.NONE);
        Check.same("clearText", x.clearText(), 2);
        Check.fails("restore(0)", Check.STATE, () -> x.restore(0));
        Check.same("restore(1)", x.restore(1), 2);
        Check.same("days with frost", x.about(11), 1);
    }
}
