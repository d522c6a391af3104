/** Promises 32 and 33: save and restore. */
public final class SlotTest {
    public static void main(String[] args) {
        stores();
        refuses();
        forgetsRememberedStates();
        Check.end("SlotTest");
    }

    private static void stores() {
        AshlarLodge x = Check.lodge("L3c922c622m512m204s000s009s001");
        x.nextDay(true);
        x.inspect(0);
        x.pay();
        x.inspect(1);
        String first = Check.tell(x);
        Check.same("save(0)", x.save(0), 1);
        x.nextDay(false);
        x.recut(1, 1, 1);
        x.set(0);
        x.setBound(9);
        x.setRate(0, 1);
        x.addMason(9, 9);
        x.addCourse(9, 6, 9);
        x.inspect(2);
        String second = Check.tell(x);
        Check.same("save(1)", x.save(1), 2);
        x.nextDay(true);
        x.append('f');
        Check.same("restore(0)", x.restore(0), 1);
        Check.same("state", Check.tell(x), first);
        x.nextDay(false);
        x.cut(0, 0, 0);
        Check.same("restore(1)", x.restore(1), 2);
        Check.same("state", Check.tell(x), second);
        Check.same("the slot keeps it", x.restore(0), 1);
        Check.same("state", Check.tell(x), first);
        Check.same("the text stays", x.clearText(), 31);
        x.nextDay(false);
        Check.same("save anew", x.save(0), 2);
        x.nextDay(false);
        Check.same("restore anew", x.restore(0), 2);
    }

    private static void refuses() {
        AshlarLodge x = new AshlarLodge();
        int[] wrong = {-1, 2, Integer.MIN_VALUE, Integer.MAX_VALUE};
        for (int slot : wrong) {
            Check.failsOn(x, "save(" + slot + ")", Check.INDEX, () -> x.save(slot));
            Check.failsOn(x, "restore(" + slot + ")", Check.INDEX, () -> x.restore(slot));
        }
        x.nextDay(false);
        Check.failsOn(x, "restore(0) of nothing", Check.STATE, () -> x.restore(0));
        x.save(0);
        Check.failsOn(x, "restore(1) of nothing", Check.STATE, () -> x.restore(1));
        Check.same("the states stay remembered", x.undo(), 0);
    }

    private static void forgetsRememberedStates() {
        AshlarLodge x = new AshlarLodge();
        x.nextDay(false);
        x.save(1);
        x.nextDay(false);
        Check.same("save and restore: the day", x.restore(1), 1);
        Check.failsOn(x, "undo behind restore", Check.STATE, x::undo);
        x.nextDay(false);
        x.nextDay(false);
        Check.same("undo of new actions", x.undo(), 1);
        Check.same("save is no action", x.save(0), 2);
        Check.same("undo behind save", x.undo(), 0);
        Check.same("the day", x.about(3), 1);
    }
}
