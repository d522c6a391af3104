/** Promises 32 and 33: a test for each sentence that names a boundary, quoted above it. */
public final class EdgeSlotTest {
    private static final int[] WRONG = {-1, 2, Integer.MIN_VALUE, Integer.MAX_VALUE};

    public static void main(String[] args) {
        saveNeedsASlot();
        saveTellsTheDay();
        saveChangesNothingElse();
        saveTakesTheLastState();
        restoreNeedsASlot();
        restoreNeedsASavedState();
        restoreNeedsOneSinceTheLastLoad();
        restoreThrowsTheFirstException();
        restoreReplacesTheState();
        restoreForgetsAllStates();
        theSlotKeepsIt();
        Check.end("EdgeSlotTest");
    }

    /** "IndexOutOfBoundsException if there is no such save slot"; "slot: 0 or 1". */
    private static void saveNeedsASlot() {
        for (int slot : WRONG) {
            Twin.refuses("save(" + slot + ")", Check.INDEX, Twin::busy, x -> x.save(slot));
        }
        Twin.answers("save(0)", 2, Twin::busy, x -> x.save(0));
        Twin.answers("save(1)", 2, Twin::busy, x -> x.save(1));
    }

    /** "Returns the day.": of a new object, of the first day with frost. */
    private static void saveTellsTheDay() {
        AshlarLodge x = new AshlarLodge();
        Check.same("on the day 0", x.save(0), 0);
        x.nextDay(true);
        Check.same("on the day 1", x.save(1), 1);
        x.undo();
        Check.same("on the day 0 again", x.save(1), 0);
    }

    /** "Stores the present state in a save slot": nothing else becomes different, no state is remembered. */
    private static void saveChangesNothingElse() {
        AshlarLodge x = Twin.busy();
        Check.asks(x, "save(1)", 2, () -> x.save(1));
        Check.same("the text", x.errorPosition(), AshlarLodge.NONE);
        Check.same("undo", x.undo(), 1);
        Check.same("the other slot", x.restore(0), 2);
        Check.same("with its own state", x.about(8), 0);
    }

    /** The same sentence: what was in the slot before is gone. */
    private static void saveTakesTheLastState() {
        AshlarLodge x = new AshlarLodge();
        x.addMason(1, 1);
        x.save(0);
        x.save(1);
        x.nextDay(true);
        x.save(0);
        Check.same("restore(1)", x.restore(1), 0);
        Check.same("restore(0)", x.restore(0), 1);
        Check.same("its pence", x.about(9), 2);
    }

    /** "IndexOutOfBoundsException if there is no such save slot". */
    private static void restoreNeedsASlot() {
        for (int slot : WRONG) {
            Twin.refuses("restore(" + slot + ")", Check.INDEX, Twin::busy, x -> x.restore(slot));
        }
        Twin.answers("restore(0)", 2, Twin::busy, x -> x.restore(0));
        Twin.answers("restore(1)", 2, Twin::busy, x -> x.save(1) * 0 + x.restore(1));
    }

    /** "IllegalStateException if nothing has been saved in it": in none, and in the other one alone. */
    private static void restoreNeedsASavedState() {
        Twin.refuses("restore(0) of a new object", Check.STATE, AshlarLodge::new, x -> x.restore(0));
        Twin.refuses("restore(1) of a new object", Check.STATE, AshlarLodge::new, x -> x.restore(1));
        Twin.refuses("restore(1) with slot 0 filled", Check.STATE, Twin::busy, x -> x.restore(1));
        AshlarLodge x = new AshlarLodge();
        x.save(1);
        Check.fails("restore(0) with slot 1 filled", Check.STATE, () -> x.restore(0));
        Check.same("restore(1)", x.restore(1), 0);
    }

    /** "since the last load": a load that is refused is none. */
    private static void restoreNeedsOneSinceTheLastLoad() {
        AshlarLodge x = new AshlarLodge();
        x.nextDay(false);
        x.save(0);
        x.save(1);
        Check.fails("load of no text", Check.STATE, x::load);
        Check.same("restore(0) behind it", x.restore(0), 1);
        Check.same("restore(1) behind it", x.restore(1), 1);
        Check.write(x, "L3");
        x.load();
        Check.fails("restore(0) behind a load", Check.STATE, () -> x.restore(0));
        Check.fails("restore(1) behind a load", Check.STATE, () -> x.restore(1));
        x.save(0);
        Check.same("restore(0) of what was saved since", x.restore(0), 0);
        Check.fails("restore(1) still", Check.STATE, () -> x.restore(1));
    }

    /** "If several exceptions apply to a call, the one that its description names first is thrown." */
    private static void restoreThrowsTheFirstException() {
        for (int slot : WRONG) {
            Twin.refuses("restore of nothing", Check.INDEX, AshlarLodge::new, x -> x.restore(slot));
        }
    }

    /** "Replaces the state by the one in a save slot": by one with less, by one with more. "Returns the day then." */
    private static void restoreReplacesTheState() {
        AshlarLodge x = new AshlarLodge();
        x.save(0);
        Check.write(x, "L3c111m912s000");
        String empty = Check.tell(x);
        x.addCourse(9, 6, 9);
        x.addMason(9, 12);
        x.nextDay(true);
        x.nextDay(false);
        x.cut(0, 0, 9);
        x.inspect(0);
        x.pay();
        x.setBound(9);
        String full = Check.tell(x);
        x.save(1);
        Check.same("restore(0)", x.restore(0), 0);
        Check.same("the empty state", Check.tell(x), empty);
        Check.fails("the stone is gone", Check.INDEX, () -> x.stone(0, 0));
        Check.same("restore(1)", x.restore(1), 2);
        Check.same("the full state", Check.tell(x), full);
        Check.same("the text stays", x.clearText(), 14);
    }

    /** "and forgets all remembered states": none, one, 14 of them. */
    private static void restoreForgetsAllStates() {
        for (int actions : new int[] {0, 1, 14, 15}) {
            AshlarLodge x = new AshlarLodge();
            x.save(0);
            for (int i = 0; i < actions; i++) {
                x.nextDay(false);
            }
            Check.same("restore(0)", x.restore(0), 0);
            Check.fails("undo", Check.STATE, x::undo);
            for (int i = 0; i < 14; i++) {
                x.nextDay(false);
            }
            for (int left = 13; left >= 0; left--) {
                Check.same("undo of new actions", x.undo(), left);
                Check.same("the day", x.about(3), left);
            }
        }
    }

    /** "The save slot keeps it.": whatever is done behind restore. */
    private static void theSlotKeepsIt() {
        AshlarLodge x = Check.lodge("L3c911c811m112s009");
        x.inspect(0);
        x.save(1);
        String saved = Check.tell(x);
        for (int i = 0; i < 3; i++) {
            x.recut(0, 0, 1);
            x.addCourse(1, 1, 1);
            x.setRate(0, 9);
            x.nextDay(true);
            x.undo();
            Check.same("restore(1)", x.restore(1), 0);
            Check.same("the same state", Check.tell(x), saved);
        }
    }
}
