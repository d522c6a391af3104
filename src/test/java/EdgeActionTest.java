/** Promises 11 to 14 and 20, 21: a test for each sentence that names a boundary, quoted above it. */
public final class EdgeActionTest {
    private static final int[] FAR = {-1, Integer.MIN_VALUE, Integer.MAX_VALUE};

    public static void main(String[] args) {
        coursesHaveRanges();
        coursesAreRefusedOutOfRange();
        thereAreAtMostSixCourses();
        theRangeOfACourseIsLookedAtFirst();
        coursesAreAddedAboveAllOthers();
        masonsHaveRanges();
        masonsAreRefusedOutOfRange();
        thereAreAtMostSixMasons();
        theRangeOfAMasonIsLookedAtFirst();
        masonsComeWithoutWork();
        masonsComeAnew();
        ratesHaveARange();
        ratesNeedAMason();
        theMasonIsLookedAtAheadOfTheRate();
        boundsHaveARange();
        theFirstBoundIsThree();
        paysNothingYet();
        paysAll();
        daysAreNumberedFrom0();
        workIsAtMostTheStrength();
        frostLeavesNoWork();
        frostIsOwedTwiceTheRate();
        Check.end("EdgeActionTest");
    }

    private static AshlarLodge six(String part) {
        AshlarLodge x = Check.lodge("L3" + part.repeat(6));
        x.pay();
        return x;
    }

    /** "size: 1 to 9; faces: 1 to 6; needed: 1 to 9": the least and the greatest; "Returns its number." */
    private static void coursesHaveRanges() {
        AshlarLodge x = new AshlarLodge();
        int[][] courses = {{1, 1, 1}, {9, 6, 9}, {1, 6, 1}, {9, 1, 1}, {1, 1, 9}};
        for (int c = 0; c < courses.length; c++) {
            Check.same("addCourse", x.addCourse(courses[c][0], courses[c][1], courses[c][2]), c);
            for (int what = 0; what < 3; what++) {
                Check.same("course(" + c + ", " + what + ")", x.course(c, what), courses[c][what]);
            }
            Check.same("it lacks all that it needs", x.course(c, 4), courses[c][2]);
        }
    }

    /** "IllegalArgumentException if an argument is out of range". */
    private static void coursesAreRefusedOutOfRange() {
        int[][] wrong = {{0, 1, 1}, {10, 1, 1}, {1, 0, 1}, {1, 7, 1}, {1, 1, 0}, {1, 1, 10}};
        for (int[] w : wrong) {
            Twin.refuses("addCourse", Check.ARGUMENT, Twin::busy, x -> x.addCourse(w[0], w[1], w[2]));
        }
        for (int far : FAR) {
            Twin.refuses("size " + far, Check.ARGUMENT, Twin::busy, x -> x.addCourse(far, 1, 1));
            Twin.refuses("faces " + far, Check.ARGUMENT, Twin::busy, x -> x.addCourse(1, far, 1));
            Twin.refuses("needed " + far, Check.ARGUMENT, Twin::busy, x -> x.addCourse(1, 1, far));
        }
    }

    /** "The wall has at most 6 courses"; "IllegalStateException if there are 6 courses". */
    private static void thereAreAtMostSixCourses() {
        Twin.answers("the sixth course", 5, () -> Check.lodge("L3" + "c111".repeat(5)), x -> x.addCourse(1, 1, 1));
        Twin.refuses("the seventh course", Check.STATE, () -> six("c111"), x -> x.addCourse(1, 1, 1));
        AshlarLodge x = six("c111");
        x.undo();
        Check.fails("the seventh course behind undo", Check.STATE, () -> x.addCourse(9, 6, 9));
    }

    /** "If several exceptions apply to a call, the one that its description names first is thrown." */
    private static void theRangeOfACourseIsLookedAtFirst() {
        Twin.refuses("size 10", Check.ARGUMENT, () -> six("c111"), x -> x.addCourse(10, 1, 1));
        Twin.refuses("faces 0", Check.ARGUMENT, () -> six("c111"), x -> x.addCourse(1, 0, 1));
        Twin.refuses("needed 10", Check.ARGUMENT, () -> six("c111"), x -> x.addCourse(1, 1, 10));
    }

    /** "Adds a course above all others"; "numbered from 0 from below, in the order in which they were added". */
    private static void coursesAreAddedAboveAllOthers() {
        AshlarLodge x = Check.lodge("L3c111m103s000");
        x.inspect(0);
        Check.same("addCourse", x.addCourse(1, 1, 1), 1);
        x.cut(0, 1, 0);
        x.inspect(1);
        Check.same("the old one is below", x.whyNotSet(1), 3);
        Check.same("nothing is below it", x.whyNotSet(0), 0);
        x.set(0);
        Check.same("the new one is above", x.whyNotSet(1), 0);
    }

    /** "rate: 1 to 9; strength: 1 to 12": the least and the greatest; "Returns the number of the mason." */
    private static void masonsHaveRanges() {
        AshlarLodge x = new AshlarLodge();
        int[][] masons = {{1, 1}, {9, 12}, {1, 12}, {9, 1}};
        for (int m = 0; m < masons.length; m++) {
            Check.same("addMason", x.addMason(masons[m][0], masons[m][1]), m);
            Check.same("rate", x.mason(m, 0), masons[m][0]);
            Check.same("strength", x.mason(m, 1), masons[m][1]);
        }
    }

    /** "IllegalArgumentException if an argument is out of range". */
    private static void masonsAreRefusedOutOfRange() {
        int[][] wrong = {{0, 1}, {10, 1}, {1, 0}, {1, 13}};
        for (int[] w : wrong) {
            Twin.refuses("addMason", Check.ARGUMENT, Twin::busy, x -> x.addMason(w[0], w[1]));
        }
        for (int far : FAR) {
            Twin.refuses("rate " + far, Check.ARGUMENT, Twin::busy, x -> x.addMason(far, 1));
            Twin.refuses("strength " + far, Check.ARGUMENT, Twin::busy, x -> x.addMason(1, far));
        }
    }

    /** "There are at most 6 masons"; "IllegalStateException if there are 6 masons". */
    private static void thereAreAtMostSixMasons() {
        Twin.answers("the sixth mason", 5, () -> Check.lodge("L3" + "m101".repeat(5)), x -> x.addMason(1, 1));
        Twin.refuses("the seventh mason", Check.STATE, () -> six("m101"), x -> x.addMason(1, 1));
        AshlarLodge x = six("m101");
        x.undo();
        Check.fails("the seventh mason behind undo", Check.STATE, () -> x.addMason(9, 12));
    }

    /** "If several exceptions apply to a call, the one that its description names first is thrown." */
    private static void theRangeOfAMasonIsLookedAtFirst() {
        Twin.refuses("rate 0", Check.ARGUMENT, () -> six("m101"), x -> x.addMason(0, 1));
        Twin.refuses("strength 13", Check.ARGUMENT, () -> six("m101"), x -> x.addMason(1, 13));
    }

    /** "A mason who is added has no work left on this day." */
    private static void masonsComeWithoutWork() {
        AshlarLodge x = Check.lodge("L3c111");
        x.addMason(9, 12);
        Check.same("work and pence", x.mason(0, 2) + x.mason(0, 3), 0);
        Check.fails("a cut on this day", Check.STATE, () -> x.cut(0, 0, 0));
        x.nextDay(false);
        Check.same("work on the next day", x.mason(0, 2), 12);
        x.addMason(9, 12);
        Check.same("the next one", x.mason(1, 2) + x.mason(1, 3), 0);
        Check.same("the first one", x.mason(0, 2), 12);
    }

    /** The same sentence behind undo: of one who was there before nothing is left. */
    private static void masonsComeAnew() {
        AshlarLodge x = new AshlarLodge();
        x.addMason(9, 12);
        x.nextDay(true);
        x.nextDay(false);
        for (int left = 2; left >= 0; left--) {
            Check.same("undo", x.undo(), left);
        }
        Check.same("addMason", x.addMason(1, 2), 0);
        int[] due = {1, 2, 0, 0, 0, 0};
        for (int what = 0; what < due.length; what++) {
            Check.same("mason(0, " + what + ")", x.mason(0, what), due[what]);
        }
    }

    /** "rate: 1 to 9"; "IllegalArgumentException if rate is out of range"; "Returns the previous rate." */
    private static void ratesHaveARange() {
        Twin.answers("setRate(0, 1)", 15, Twin::busy, x -> x.setRate(0, 1) + 10 * x.mason(0, 0));
        Twin.answers("setRate(0, 9)", 95, Twin::busy, x -> x.setRate(0, 9) + 10 * x.mason(0, 0));
        Twin.refuses("setRate(0, 0)", Check.ARGUMENT, Twin::busy, x -> x.setRate(0, 0));
        Twin.refuses("setRate(0, 10)", Check.ARGUMENT, Twin::busy, x -> x.setRate(0, 10));
        for (int far : FAR) {
            Twin.refuses("setRate(1, " + far + ")", Check.ARGUMENT, Twin::busy, x -> x.setRate(1, far));
        }
    }

    /** "IndexOutOfBoundsException if there is no such mason". */
    private static void ratesNeedAMason() {
        for (int far : FAR) {
            Twin.refuses("setRate(" + far + ", 1)", Check.INDEX, Twin::busy, x -> x.setRate(far, 1));
        }
        Twin.refuses("setRate(2, 1)", Check.INDEX, Twin::busy, x -> x.setRate(2, 1));
        Twin.refuses("setRate(0, 1) of none", Check.INDEX, AshlarLodge::new, x -> x.setRate(0, 1));
        Twin.answers("setRate(1, 1)", 2, Twin::busy, x -> x.setRate(1, 1));
        Twin.answers("setRate(5, 9) of six", 1, () -> six("m101"), x -> x.setRate(5, 9));
    }

    /** "If several exceptions apply to a call, the one that its description names first is thrown." */
    private static void theMasonIsLookedAtAheadOfTheRate() {
        Twin.refuses("setRate(2, 10)", Check.INDEX, Twin::busy, x -> x.setRate(2, 10));
        Twin.refuses("setRate(-1, 0)", Check.INDEX, Twin::busy, x -> x.setRate(-1, 0));
    }

    /** "bound: 0 to 9"; "IllegalArgumentException if bound is out of range"; "Returns the previous bound." */
    private static void boundsHaveARange() {
        Twin.answers("setBound(0)", 3, Twin::busy, x -> x.setBound(0) + 10 * x.about(5));
        Twin.answers("setBound(9)", 93, Twin::busy, x -> x.setBound(9) + 10 * x.about(5));
        Twin.refuses("setBound(10)", Check.ARGUMENT, Twin::busy, x -> x.setBound(10));
        for (int far : FAR) {
            Twin.refuses("setBound(" + far + ")", Check.ARGUMENT, Twin::busy, x -> x.setBound(far));
        }
    }

    /** "the bound (0 to 9, at first 3)". */
    private static void theFirstBoundIsThree() {
        Twin.answers("setBound of a new object", 3, AshlarLodge::new, x -> x.setBound(9));
        AshlarLodge x = new AshlarLodge();
        x.addCourse(1, 1, 9);
        x.addMason(1, 12);
        x.nextDay(false);
        x.cut(0, 0, 3);
        x.cut(0, 0, 4);
        Check.same("a fault of 3", x.inspect(0), 1);
        Check.same("a fault of 4", x.inspect(1), AshlarLodge.NONE);
    }

    /** "Pays all that is owed. Returns the pence that are paid.": no masons, nothing owed, nothing owed any more. */
    private static void paysNothingYet() {
        AshlarLodge x = new AshlarLodge();
        Check.same("without masons", x.pay(), 0);
        x.addMason(9, 12);
        Check.same("nothing owed", x.pay(), 0);
        x.nextDay(true);
        Check.same("for the frost", x.pay(), 18);
        Check.same("nothing owed any more", x.pay(), 0);
        Check.same("paid so far", x.about(10), 18);
    }

    /** "all that is owed is paid": to each of six masons. */
    private static void paysAll() {
        AshlarLodge x = Check.lodge("L3m101m201m301m401m501m901");
        x.nextDay(true);
        x.nextDay(true);
        Check.same("pay", x.pay(), 4 * (1 + 2 + 3 + 4 + 5 + 9));
        for (int m = 0; m < 6; m++) {
            Check.same("owed then", x.mason(m, 3), 0);
        }
        Check.same("owed to all", x.about(9), 0);
    }

    /** "Days are numbered from 0; on the day 0 there is no frost." "Returns its number." */
    private static void daysAreNumberedFrom0() {
        AshlarLodge x = new AshlarLodge();
        Check.same("the first day", x.about(3) + x.about(4), 0);
        Check.same("nextDay(true)", x.nextDay(true), 1);
        Check.same("nextDay(false)", x.nextDay(false), 2);
        Check.same("the day", x.about(3), 2);
    }

    /** "work that is left on this day (at most the strength)"; "as much work left as the strength tells". */
    private static void workIsAtMostTheStrength() {
        AshlarLodge x = Check.lodge("L3c162m101m112");
        x.nextDay(false);
        Check.same("nothing is added to it", x.mason(0, 2) + 100 * x.mason(1, 2), 1201);
        x.cut(1, 0, 0);
        x.cut(1, 0, 0);
        Check.same("none is left", x.mason(1, 2), 0);
        x.nextDay(false);
        Check.same("all is there again", x.mason(0, 2) + 100 * x.mason(1, 2), 1201);
    }

    /** "or none if there is frost". */
    private static void frostLeavesNoWork() {
        AshlarLodge x = Check.lodge("L3c111m101m112");
        x.nextDay(true);
        Check.same("no work", x.mason(0, 2) + x.mason(1, 2), 0);
        Check.fails("a cut", Check.STATE, () -> x.cut(1, 0, 0));
        x.nextDay(true);
        Check.same("none again", x.mason(0, 2) + x.mason(1, 2), 0);
        x.nextDay(false);
        Check.same("behind the frost", x.mason(0, 2) + 100 * x.mason(1, 2), 1201);
    }

    /** "if there is frost, each mason is owed 2 * (the rate) more". */
    private static void frostIsOwedTwiceTheRate() {
        AshlarLodge x = Check.lodge("L3m101m912");
        x.nextDay(false);
        Check.same("without frost", x.about(9), 0);
        x.nextDay(true);
        Check.same("the least and the greatest rate", x.mason(0, 3) + 100 * x.mason(1, 3), 1802);
        x.nextDay(true);
        Check.same("more", x.mason(0, 3) + 100 * x.mason(1, 3), 3604);
        x.nextDay(false);
        Check.same("no more", x.mason(0, 3) + 100 * x.mason(1, 3), 3604);
        Twin.answers("without masons", 0, AshlarLodge::new, y -> y.nextDay(true) - 1 + y.about(9));
    }
}
