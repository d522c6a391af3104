/** Promises 1 and 6 to 10: a test for each sentence that names a boundary, quoted above it. */
public final class EdgeQueryTest {
    private static final int[] FAR = {-1, Integer.MIN_VALUE, Integer.MAX_VALUE};

    public static void main(String[] args) {
        newObjectHasNothing();
        newObjectRemembersNothing();
        noneIsMinusNine();
        aboutTakes0To11();
        aboutTellsNothingYet();
        aboutTellsTheMostThereMayBe();
        aboutTellsAllScrapped();
        aboutTellsFrost();
        aboutTellsCompleteCourses();
        aboutTellsPence();
        courseExists();
        courseTakes0To6();
        courseLacksNoLessThan0();
        courseCountsItsStones();
        masonExists();
        masonTakes0To5();
        masonCountsMarks();
        stoneExists();
        stoneTakes0To5();
        stoneTellsHowOftenItWasRecut();
        firstExceptionIsThrown();
        whyNotSetNeedsAStone();
        whyNotSetTellsEachReason();
        whyNotSetTellsTheFirstReason();
        courseBelowIsCompleteWithItsLastStone();
        courseIsCompleteWithItsLastStone();
        answersThe512thCall();
        Check.end("EdgeQueryTest");
    }

    private static void tells(String what, Teller teller, int[] due) {
        for (int i = 0; i < due.length; i++) {
            Check.same(what + " " + i, teller.tell(i), due[i]);
        }
    }

    private interface Teller {
        int tell(int what);
    }

    /** "Creates a lodge without courses, masons and stones." "at first 3"; "on the day 0 there is no frost". */
    private static void newObjectHasNothing() {
        AshlarLodge x = new AshlarLodge();
        tells("about", x::about, new int[] {0, 0, 0, 0, 0, 3, 0, 0, 0, 0, 0, 0});
        Check.same("its text", x.clearText(), 0);
        Check.fails("course(0, 0)", Check.INDEX, () -> x.course(0, 0));
        Check.fails("mason(0, 0)", Check.INDEX, () -> x.mason(0, 0));
        Check.fails("stone(0, 0)", Check.INDEX, () -> x.stone(0, 0));
        Check.fails("whyNotSet(0)", Check.INDEX, () -> x.whyNotSet(0));
    }

    /** The same sentence: nothing is remembered, nothing is saved. */
    private static void newObjectRemembersNothing() {
        AshlarLodge x = new AshlarLodge();
        Check.fails("undo", Check.STATE, x::undo);
        Check.fails("restore(0)", Check.STATE, () -> x.restore(0));
        Check.fails("restore(1)", Check.STATE, () -> x.restore(1));
        Check.same("the number of the first course", x.addCourse(1, 1, 1), 0);
        Check.same("of the first mason", x.addMason(1, 1), 0);
        Check.same("the next day", x.nextDay(false), 1);
        Check.same("of the first stone", x.cut(0, 0, 0), 0);
    }

    /** "NONE = -9: There is no such result." */
    private static void noneIsMinusNine() {
        Check.same("NONE", AshlarLodge.NONE, -9);
    }

    /** "IllegalArgumentException if what is not 0 to 11". */
    private static void aboutTakes0To11() {
        for (int far : FAR) {
            Twin.refuses("about(" + far + ")", Check.ARGUMENT, Twin::busy, x -> x.about(far));
        }
        Twin.refuses("about(12)", Check.ARGUMENT, Twin::busy, x -> x.about(12));
        Twin.keeps("about(0)", 2, Twin::busy, x -> x.about(0));
        Twin.keeps("about(11)", 1, Twin::busy, x -> x.about(11));
    }

    /** "0: the number of courses; .. 11: the number of days with frost": nothing of it there yet. */
    private static void aboutTellsNothingYet() {
        tells("about", new AshlarLodge()::about, new int[] {0, 0, 0, 0, 0, 3, 0, 0, 0, 0, 0, 0});
        tells("about an empty text's", Check.lodge("L0f")::about, new int[] {0, 0, 0, 0, 1, 0, 0, 0, 0, 0, 0, 0});
    }

    /** The same sentence: 6 courses, 6 masons, 24 stones, all of them set. */
    private static void aboutTellsTheMostThereMayBe() {
        AshlarLodge x = Check.lodge("L9c114c114c114c114c114c114m904m904m904m904m904m904");
        for (int s = 0; s < 24; s++) {
            x.cut(s / 4, s / 4, 9);
            x.inspect(s);
            x.set(s);
        }
        tells("about", x::about, new int[] {6, 6, 24, 0, 0, 9, 6, 24, 0, 24 * 9, 0, 0});
        tells("course", what -> x.course(5, what), new int[] {1, 1, 4, 4, 0, 0, 0});
        tells("mason", what -> x.mason(5, what), new int[] {9, 4, 0, 36, 4, 0});
        tells("stone", what -> x.stone(23, what), new int[] {5, 5, 9, 3, 0, 5});
    }

    /** "8: of stones that are scrapped": all 24. */
    private static void aboutTellsAllScrapped() {
        AshlarLodge x = Twin.cut(24, 4);
        for (int s = 0; s < 24; s++) {
            x.inspect(s);
            Check.same("scrap", x.scrap(s), s + 1);
            Check.same("about(8)", x.about(8), s + 1);
        }
        Check.same("of the mason", x.mason(1, 5), 12);
    }

    /** "4: 1 if there is frost, 0 if not"; "11: the number of days with frost that began so far (not the day 0)". */
    private static void aboutTellsFrost() {
        AshlarLodge x = Check.lodge("L3f");
        Check.same("on the day 0", x.about(4) + 10 * x.about(11), 1);
        x.nextDay(true);
        Check.same("on the day 1", x.about(4) + 10 * x.about(11), 11);
        x.nextDay(false);
        Check.same("on the day 2", x.about(4) + 10 * x.about(11), 10);
        x.nextDay(true);
        Check.same("on the day 3", x.about(4) + 10 * x.about(11), 21);
    }

    /** "6: the number of complete courses"; "A course is complete if as many stones are set in it." */
    private static void aboutTellsCompleteCourses() {
        AshlarLodge x = Check.lodge("L3c112c111m101s000s000s010");
        for (int s = 0; s < 3; s++) {
            x.inspect(s);
        }
        Check.same("of none", x.about(6), 0);
        x.set(0);
        Check.same("one stone is missing", x.about(6), 0);
        x.set(1);
        Check.same("as many as needed", x.about(6), 1);
        x.set(2);
        Check.same("all", x.about(6), 2);
        x.addCourse(1, 1, 1);
        Check.same("and a new one", x.about(6), 2);
    }

    /** "9: the pence that are owed to all masons; 10: the pence that were paid so far". */
    private static void aboutTellsPence() {
        AshlarLodge x = Check.lodge("L3m101m901");
        Check.same("nothing yet", x.about(9) + x.about(10), 0);
        x.nextDay(true);
        Check.same("owed", x.about(9) + 100 * x.about(10), 20);
        x.pay();
        Check.same("paid", x.about(9) + 100 * x.about(10), 2000);
        x.nextDay(true);
        x.pay();
        Check.same("paid so far", x.about(9) + 100 * x.about(10), 4000);
    }

    /** "IndexOutOfBoundsException if there is no such course". */
    private static void courseExists() {
        for (int far : FAR) {
            Twin.refuses("course(" + far + ", 0)", Check.INDEX, Twin::busy, x -> x.course(far, 0));
        }
        Twin.refuses("course(2, 0)", Check.INDEX, Twin::busy, x -> x.course(2, 0));
        Twin.refuses("course(0, 0) of none", Check.INDEX, AshlarLodge::new, x -> x.course(0, 0));
        Twin.keeps("course(0, 0)", 9, Twin::busy, x -> x.course(0, 0));
        Twin.keeps("course(1, 0)", 6, Twin::busy, x -> x.course(1, 0));
        Twin.refuses("course(6, 0) of six", Check.INDEX, () -> Check.lodge("L3" + "c111".repeat(6)),
                x -> x.course(6, 0));
    }

    /** "IllegalArgumentException if what is not 0 to 6". */
    private static void courseTakes0To6() {
        for (int far : FAR) {
            Twin.refuses("course(0, " + far + ")", Check.ARGUMENT, Twin::busy, x -> x.course(0, far));
        }
        Twin.refuses("course(1, 7)", Check.ARGUMENT, Twin::busy, x -> x.course(1, 7));
        tells("course 0", what -> Twin.busy().course(0, what), new int[] {9, 1, 2, 1, 0, 1, 1});
        tells("course 1", what -> Twin.busy().course(1, what), new int[] {6, 2, 1, 0, 1, 0, 0});
    }

    /**
     * "A course lacks as many stones as it needs, less those that are set in it and those of it that are accepted (but
     * not below 0)."
     */
    private static void courseLacksNoLessThan0() {
        AshlarLodge x = Check.lodge("L3c112m101s000s000s000s000");
        int[] due = {1, 0, 0};
        for (int s = 0; s < 3; s++) {
            x.inspect(s);
            Check.same("behind the stone " + s, x.course(0, 4), due[s]);
        }
        x.set(0);
        Check.same("set and accepted", x.course(0, 4), 0);
        x.set(1);
        Check.same("complete, and one is accepted", x.course(0, 4), 0);
        x.inspect(3);
        Check.same("complete, and two are accepted", x.course(0, 4), 0);
    }

    /** "5: of stones of it with the state 0; 6: of stones of it with the state 2": none, and all. */
    private static void courseCountsItsStones() {
        AshlarLodge x = Twin.cut(24, 9);
        tells("course", what -> x.course(0, what), new int[] {1, 1, 9, 0, 9, 24, 0});
        for (int s = 0; s < 24; s++) {
            x.inspect(s);
        }
        tells("course", what -> x.course(0, what), new int[] {1, 1, 9, 0, 9, 0, 24});
    }

    /** "IndexOutOfBoundsException if there is no such mason". */
    private static void masonExists() {
        for (int far : FAR) {
            Twin.refuses("mason(" + far + ", 0)", Check.INDEX, Twin::busy, x -> x.mason(far, 0));
        }
        Twin.refuses("mason(2, 0)", Check.INDEX, Twin::busy, x -> x.mason(2, 0));
        Twin.refuses("mason(0, 0) of none", Check.INDEX, AshlarLodge::new, x -> x.mason(0, 0));
        Twin.keeps("mason(0, 0)", 5, Twin::busy, x -> x.mason(0, 0));
        Twin.keeps("mason(1, 0)", 2, Twin::busy, x -> x.mason(1, 0));
        Twin.refuses("mason(6, 0) of six", Check.INDEX, () -> Check.lodge("L3" + "m101".repeat(6)),
                x -> x.mason(6, 0));
    }

    /** "IllegalArgumentException if what is not 0 to 5". */
    private static void masonTakes0To5() {
        for (int far : FAR) {
            Twin.refuses("mason(0, " + far + ")", Check.ARGUMENT, Twin::busy, x -> x.mason(0, far));
        }
        Twin.refuses("mason(1, 6)", Check.ARGUMENT, Twin::busy, x -> x.mason(1, 6));
        tells("mason 0", what -> Twin.busy().mason(0, what), new int[] {5, 12, 12, 15, 1, 1});
        tells("mason 1", what -> Twin.busy().mason(1, what), new int[] {2, 3, 3, 4, 0, 1});
    }

    /** "4: the number of stones that have the mark of the mason now and are set; 5: .. rejected or scrapped". */
    private static void masonCountsMarks() {
        AshlarLodge x = Check.lodge("L3c911c811m512m512s009");
        Check.same("a stone that is cut", x.mason(0, 5), 0);
        x.inspect(0);
        Check.same("rejected", x.mason(0, 5), 1);
        x.recut(1, 0, 1);
        Check.same("recut by another", x.mason(0, 5) + x.mason(1, 5), 0);
        x.inspect(0);
        x.scrap(0);
        Check.same("scrapped with the mark of another", x.mason(0, 5) + 10 * x.mason(1, 5), 10);
        Check.same("none is set", x.mason(0, 4) + x.mason(1, 4), 0);
    }

    /** "IndexOutOfBoundsException if there is no such stone". */
    private static void stoneExists() {
        for (int far : FAR) {
            Twin.refuses("stone(" + far + ", 0)", Check.INDEX, Twin::busy, x -> x.stone(far, 0));
        }
        Twin.refuses("stone(5, 0)", Check.INDEX, Twin::busy, x -> x.stone(5, 0));
        Twin.refuses("stone(0, 0) of none", Check.INDEX, AshlarLodge::new, x -> x.stone(0, 0));
        Twin.keeps("stone(0, 3)", 3, Twin::busy, x -> x.stone(0, 3));
        Twin.keeps("stone(4, 3)", 1, Twin::busy, x -> x.stone(4, 3));
        Twin.answers("stone(23, 2) of 24", 7, () -> Twin.cut(24, 7), x -> x.stone(23, 2));
        Twin.answers("stone(24, 2) of 24", "throws java.lang.IndexOutOfBoundsException", () -> Twin.cut(24, 7),
                x -> x.stone(24, 2));
    }

    /** "IllegalArgumentException if what is not 0 to 5". */
    private static void stoneTakes0To5() {
        for (int far : FAR) {
            Twin.refuses("stone(0, " + far + ")", Check.ARGUMENT, Twin::busy, x -> x.stone(0, far));
        }
        Twin.refuses("stone(4, 6)", Check.ARGUMENT, Twin::busy, x -> x.stone(4, 6));
        tells("stone 0", what -> Twin.busy().stone(0, what), new int[] {0, 0, 2, 3, 0, 0});
        tells("stone 2", what -> Twin.busy().stone(2, what), new int[] {1, 1, 9, 4, 0, 1});
    }

    /** "4: how often it was recut; 5: the mark of the mason who cut it first": never, and as often as may be. */
    private static void stoneTellsHowOftenItWasRecut() {
        AshlarLodge x = Check.lodge("L0c911c811c711c611c511c411m101m112s009");
        for (int c = 1; c < 6; c++) {
            Check.same("recut so far", x.stone(0, 4), c - 1);
            x.inspect(0);
            x.recut(1, 0, c);
        }
        tells("stone", what -> x.stone(0, what), new int[] {5, 1, 4, 0, 5, 0});
    }

    /** "If several exceptions apply to a call, the one that its description names first is thrown." */
    private static void firstExceptionIsThrown() {
        Twin.refuses("course(2, 7)", Check.INDEX, Twin::busy, x -> x.course(2, 7));
        Twin.refuses("course(-1, -1)", Check.INDEX, Twin::busy, x -> x.course(-1, -1));
        Twin.refuses("mason(2, 6)", Check.INDEX, Twin::busy, x -> x.mason(2, 6));
        Twin.refuses("mason(-1, -1)", Check.INDEX, Twin::busy, x -> x.mason(-1, -1));
        Twin.refuses("stone(5, 6)", Check.INDEX, Twin::busy, x -> x.stone(5, 6));
        Twin.refuses("stone(-1, -1)", Check.INDEX, Twin::busy, x -> x.stone(-1, -1));
    }

    /** "IndexOutOfBoundsException if there is no such stone". */
    private static void whyNotSetNeedsAStone() {
        for (int far : FAR) {
            Twin.refuses("whyNotSet(" + far + ")", Check.INDEX, Twin::busy, x -> x.whyNotSet(far));
        }
        Twin.refuses("whyNotSet(5)", Check.INDEX, Twin::busy, x -> x.whyNotSet(5));
        Twin.refuses("whyNotSet(0) of none", Check.INDEX, AshlarLodge::new, x -> x.whyNotSet(0));
        Twin.keeps("whyNotSet(0)", 1, Twin::busy, x -> x.whyNotSet(0));
        Twin.keeps("whyNotSet(4)", 0, Twin::busy, x -> x.whyNotSet(4));
    }

    /**
     * "Returns 1 if it is not accepted; 2 if there is frost; 3 if a course below its course is not complete; 4 if its
     * course is complete ..; 0 if it can."
     */
    private static void whyNotSetTellsEachReason() {
        for (int s = 0; s < 4; s++) {
            int stone = s;
            Twin.keeps("of a stone set, rejected, scrapped, cut", 1, Twin::busy, x -> x.whyNotSet(stone));
        }
        Twin.keeps("with frost", 2, Twin::frozen, x -> x.whyNotSet(4));
        Twin.keeps("above an open course", 3, () -> wall(0, false), x -> x.whyNotSet(3));
        Twin.keeps("of a complete course", 4, () -> wall(2, false), x -> x.whyNotSet(2));
        Twin.keeps("if it can", 0, () -> wall(0, false), x -> x.whyNotSet(0));
    }

    /** The stones 0 to 2 of the course 0, which needs 2, are accepted; 3 of the course 1 is; 4 and 5 are rejected. */
    private static AshlarLodge wall(int set, boolean frost) {
        AshlarLodge x = Check.lodge("L3c112c112m101s000s000s000s010s009s019");
        for (int s = 0; s < 6; s++) {
            x.inspect(s);
        }
        for (int s = 0; s < set; s++) {
            x.set(s);
        }
        x.nextDay(frost);
        Twin.forget(x);
        return x;
    }

    /** "(the first of these that applies)". */
    private static void whyNotSetTellsTheFirstReason() {
        Twin.keeps("not accepted, frost", 1, () -> wall(0, true), x -> x.whyNotSet(4));
        Twin.keeps("not accepted, an open course below", 1, () -> wall(0, false), x -> x.whyNotSet(5));
        Twin.keeps("not accepted, a complete course", 1, () -> wall(2, false), x -> x.whyNotSet(4));
        Twin.keeps("not accepted, all but that", 1, () -> wall(2, true), x -> x.whyNotSet(4));
        Twin.keeps("frost, an open course below", 2, () -> wall(0, true), x -> x.whyNotSet(3));
        Twin.keeps("frost, a complete course", 2, () -> wall(2, true), x -> x.whyNotSet(2));
    }

    /** "3 if a course below its course is not complete": it is not with all stones but one. */
    private static void courseBelowIsCompleteWithItsLastStone() {
        Twin.keeps("none below is set", 3, () -> wall(0, false), x -> x.whyNotSet(3));
        Twin.keeps("all but one", 3, () -> wall(1, false), x -> x.whyNotSet(3));
        Twin.keeps("all", 0, () -> wall(2, false), x -> x.whyNotSet(3));
        AshlarLodge three = Check.lodge("L3c111c111c111m101s000s010s020");
        for (int s = 0; s < 3; s++) {
            three.inspect(s);
        }
        three.set(0);
        Check.same("the one just below is open", three.whyNotSet(2), 3);
        three.set(1);
        Check.same("both are complete", three.whyNotSet(2), 0);
    }

    /** "4 if its course is complete": it is not with all stones but one. */
    private static void courseIsCompleteWithItsLastStone() {
        Twin.keeps("none is set", 0, () -> wall(0, false), x -> x.whyNotSet(2));
        Twin.keeps("all but one", 0, () -> wall(1, false), x -> x.whyNotSet(2));
        Twin.keeps("all", 4, () -> wall(2, false), x -> x.whyNotSet(2));
        AshlarLodge both = wall(2, false);
        both.set(3);
        both.nextDay(false);
        both.cut(0, 1, 0);
        both.inspect(6);
        Check.same("all but one above", both.whyNotSet(6), 0);
        both.set(6);
        both.nextDay(false);
        both.cut(0, 1, 0);
        both.inspect(7);
        Check.same("the course above is complete too", both.whyNotSet(7), 4);
        Check.same("and the one below", both.whyNotSet(2), 4);
    }

    /** "An object is used for at most 512 calls after it has been made". */
    private static void answersThe512thCall() {
        AshlarLodge x = new AshlarLodge();
        for (int m = 0; m < 6; m++) {
            x.addMason(9, 12);
        }
        for (int day = 1; day <= 504; day++) {
            Check.same("nextDay", x.nextDay(true), day);
        }
        Check.same("the call 511", x.about(11), 504);
        Check.same("the call 512", x.about(9), 504 * 6 * 18);
    }
}
