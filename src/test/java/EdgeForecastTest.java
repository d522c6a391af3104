/** Promises 23 to 29: a test for each sentence that names a boundary, quoted above it. */
public final class EdgeForecastTest {
    private static final int NONE = AshlarLodge.NONE;
    private static final int[] FAR = {-1, Integer.MIN_VALUE, Integer.MAX_VALUE};

    public static void main(String[] args) {
        recutForNeedsAStone();
        recutForNeedsTheState2();
        recutForNeedsASmallerTemplate();
        recutForNeedsACourseThatLacks();
        recutForTakesTheGreatestSize();
        cheapestNeedsACourse();
        cheapestNeedsEnoughWork();
        cheapestTakesTheSmallestRate();
        cheapestFindsNone();
        costsNothing();
        costsTheLeastAndTheGreatest();
        costsNeedAMason();
        noStoneLacksForNoDays();
        daysCountThisOne();
        daysFollowWithoutFrost();
        daysNeedAMasonWhoCan();
        daysNeedAtMost55();
        daysNeedAsManyStonesAsNeeded();
        daysDoNotCountCutOrRejectedStones();
        masonsWorkAscending();
        masonsCutForTheLowestCourse();
        setsNoneNow();
        setsUpToTheFirstOpenCourse();
        setsNoMoreThanNeeded();
        setsAll24();
        earnsWithBounds0To9();
        earnsForAFaultAtTheBound();
        earnsForTheState0Alone();
        earnsHalvesRoundedDownEach();
        worstNeedsABadStone();
        worstIsTheLowestOfSeveral();
        worstCountsRejectedAndScrapped();
        Check.end("EdgeForecastTest");
    }

    /** "IndexOutOfBoundsException if there is no such stone". */
    private static void recutForNeedsAStone() {
        for (int far : FAR) {
            Twin.refuses("recutFor(" + far + ")", Check.INDEX, Twin::busy, x -> x.recutFor(far));
        }
        Twin.refuses("recutFor(5)", Check.INDEX, Twin::busy, x -> x.recutFor(5));
        Twin.refuses("recutFor(0) of none", Check.INDEX, AshlarLodge::new, x -> x.recutFor(0));
        Twin.refuses("recutFor(24) of 24", Check.INDEX, Twin::full, x -> x.recutFor(24));
    }

    private static AshlarLodge withASmallCourse() {
        AshlarLodge x = Twin.busy();
        x.addCourse(1, 1, 1);
        Twin.forget(x);
        return x;
    }

    /** "NONE if there is none, or the state of the stone is not 2". */
    private static void recutForNeedsTheState2() {
        int[] due = {NONE, 1, NONE, NONE, NONE};
        for (int s = 0; s < due.length; s++) {
            int stone = s;
            Twin.keeps("recutFor(" + s + ")", due[s], () -> withASmallCourse(), x -> x.recutFor(stone));
        }
        Twin.keeps("recutFor(1) with frost", 1, Twin::frozen, x -> x.recutFor(1));
    }

    private static AshlarLodge rejected(String courses) {
        AshlarLodge x = Check.lodge("L0" + courses + "m101s001");
        x.inspect(0);
        return x;
    }

    /** "the courses whose template is smaller than that of the stone's course". */
    private static void recutForNeedsASmallerTemplate() {
        Twin.keeps("smaller by 1", 1, () -> rejected("c911c811"), x -> x.recutFor(0));
        Twin.keeps("smaller by 1, the least", 1, () -> rejected("c211c111"), x -> x.recutFor(0));
        Twin.keeps("as large", NONE, () -> rejected("c911c911"), x -> x.recutFor(0));
        Twin.keeps("larger by 1", NONE, () -> rejected("c811c911"), x -> x.recutFor(0));
        Twin.keeps("its own alone", NONE, () -> rejected("c911"), x -> x.recutFor(0));
    }

    private static AshlarLodge rejectedAbove(int accepted, int set) {
        AshlarLodge x = Check.lodge("L3c512c911m101s019s000s000s000");
        for (int s = 0; s <= accepted; s++) {
            x.inspect(s);
        }
        for (int s = 1; s <= set; s++) {
            x.set(s);
        }
        Twin.forget(x);
        return x;
    }

    /** "and that lack stones": one, none, and not less than none. */
    private static void recutForNeedsACourseThatLacks() {
        Twin.keeps("two lack", 0, () -> rejectedAbove(0, 0), x -> x.recutFor(0));
        Twin.keeps("one lacks", 0, () -> rejectedAbove(1, 0), x -> x.recutFor(0));
        Twin.keeps("none lacks, all are accepted", NONE, () -> rejectedAbove(2, 0), x -> x.recutFor(0));
        Twin.keeps("one is set, one lacks", 0, () -> rejectedAbove(1, 1), x -> x.recutFor(0));
        Twin.keeps("none lacks, one is set", NONE, () -> rejectedAbove(2, 1), x -> x.recutFor(0));
        Twin.keeps("none lacks, all are set", NONE, () -> rejectedAbove(2, 2), x -> x.recutFor(0));
        Twin.keeps("more than needed", NONE, () -> rejectedAbove(3, 0), x -> x.recutFor(0));
    }

    /** "the one with the greatest size, among several the lowest one". */
    private static void recutForTakesTheGreatestSize() {
        Twin.keeps("the greatest is last", 2, () -> rejected("c911c111c811"), x -> x.recutFor(0));
        Twin.keeps("the greatest is first", 1, () -> rejected("c911c811c111"), x -> x.recutFor(0));
        Twin.keeps("the lowest of two", 1, () -> rejected("c911c811c811"), x -> x.recutFor(0));
        Twin.keeps("the lowest of two behind a smaller one", 2, () -> rejected("c911c111c811c811"),
                x -> x.recutFor(0));
        Twin.keeps("of six", 5, () -> rejected("c911c111c211c311c411c511"), x -> x.recutFor(0));
    }

    /** "IndexOutOfBoundsException if there is no such course". */
    private static void cheapestNeedsACourse() {
        for (int far : FAR) {
            Twin.refuses("cheapest(" + far + ")", Check.INDEX, Twin::busy, x -> x.cheapest(far));
        }
        Twin.refuses("cheapest(2)", Check.INDEX, Twin::busy, x -> x.cheapest(2));
        Twin.refuses("cheapest(0) of none", Check.INDEX, AshlarLodge::new, x -> x.cheapest(0));
        Twin.refuses("cheapest(6) of six", Check.INDEX, () -> Check.lodge("L3m101" + "c111".repeat(6)),
                x -> x.cheapest(6));
        Twin.keeps("cheapest(5) of six", 0, () -> Check.lodge("L3m101" + "c111".repeat(6)), x -> x.cheapest(5));
    }

    /** "the masons who have enough work left to cut one": just as much as the faces, and one less. */
    private static void cheapestNeedsEnoughWork() {
        for (int f = 1; f <= 6; f++) {
            String course = "L3c1" + f + "9m10";
            int faces = f;
            Twin.keeps("just as much", 0, () -> Check.lodge(course + faces), x -> x.cheapest(0));
            if (f > 1) {
                Twin.keeps("one less", NONE, () -> Check.lodge(course + (faces - 1)), x -> x.cheapest(0));
            }
        }
        AshlarLodge x = Check.lodge("L3c119m102m902");
        x.cut(0, 0, 0);
        Check.same("one is left", x.cheapest(0), 0);
        x.cut(0, 0, 0);
        Check.same("none is left", x.cheapest(0), 1);
        Twin.keeps("also if there is no room for a stone", 0, Twin::full, y -> y.cheapest(0));
    }

    /** "the one with the smallest rate, among several the lowest number". */
    private static void cheapestTakesTheSmallestRate() {
        Twin.keeps("the first", 0, () -> Check.lodge("L3c111m101m201"), x -> x.cheapest(0));
        Twin.keeps("the last", 1, () -> Check.lodge("L3c111m901m801"), x -> x.cheapest(0));
        Twin.keeps("the lowest of two", 0, () -> Check.lodge("L3c111m901m901"), x -> x.cheapest(0));
        Twin.keeps("the lowest of two behind another", 1, () -> Check.lodge("L3c111m901m101m101"),
                x -> x.cheapest(0));
        Twin.keeps("the cheapest cannot", 1, () -> Check.lodge("L3c121m101m902"), x -> x.cheapest(0));
    }

    /** "NONE if there is none". */
    private static void cheapestFindsNone() {
        Twin.keeps("no mason", NONE, () -> Check.lodge("L3c111"), x -> x.cheapest(0));
        Twin.keeps("frost on the day 0", NONE, () -> Check.lodge("L3c111m112f"), x -> x.cheapest(0));
        Twin.keeps("frost", NONE, Twin::frozen, x -> x.cheapest(0));
        AshlarLodge x = Check.lodge("L3c111");
        x.addMason(1, 12);
        Check.same("one who was just added", x.cheapest(0), NONE);
    }

    /** "Returns the sum, for all stones that all courses lack": none lacks, with a mason and without. */
    private static void costsNothing() {
        Twin.keeps("no course, no mason", 0, AshlarLodge::new, AshlarLodge::costLeft);
        Twin.keeps("no course", 0, () -> Check.lodge("L3m901"), AshlarLodge::costLeft);
        AshlarLodge x = Check.lodge("L3c111m901s000s000");
        Check.same("one lacks", x.costLeft(), 9);
        x.inspect(0);
        Check.same("none lacks", x.costLeft(), 0);
        x.inspect(1);
        Check.same("one is too many", x.costLeft(), 0);
        x.set(0);
        Check.same("it is complete", x.costLeft(), 0);
    }

    /** "(faces) * (the smallest rate of all masons)". */
    private static void costsTheLeastAndTheGreatest() {
        Twin.keeps("the least", 1, () -> Check.lodge("L3c111m101"), AshlarLodge::costLeft);
        Twin.keeps("the greatest", 6 * 9 * 6 * 9, () -> Check.lodge("L3" + "c969".repeat(6) + "m901".repeat(6)),
                AshlarLodge::costLeft);
        Twin.keeps("the last mason's rate", 1, () -> Check.lodge("L3c111m901m801m101"), AshlarLodge::costLeft);
        AshlarLodge x = Check.lodge("L3c161m906");
        x.addMason(2, 1);
        Check.same("one who has no work", x.costLeft(), 12);
    }

    /** "NONE if some stone lacks and there is no mason". */
    private static void costsNeedAMason() {
        Twin.keeps("one lacks", NONE, () -> Check.lodge("L3c111"), AshlarLodge::costLeft);
        Twin.keeps("nine lack", NONE, () -> Check.lodge("L3c969"), AshlarLodge::costLeft);
    }

    /** "0 if none lacks a stone now". */
    private static void noStoneLacksForNoDays() {
        Twin.keeps("no course, no mason", 0, AshlarLodge::new, AshlarLodge::daysLeft);
        Twin.keeps("no course", 0, () -> Check.lodge("L3fm101"), AshlarLodge::daysLeft);
        AshlarLodge x = Check.lodge("L3c111m101s000s000");
        Check.same("one lacks", x.daysLeft(), 1);
        x.inspect(0);
        Check.same("none lacks", x.daysLeft(), 0);
        x.inspect(1);
        Check.same("one is too many", x.daysLeft(), 0);
        x.nextDay(true);
        Check.same("also with frost", x.daysLeft(), 0);
    }

    /** "Returns the smallest number of days, this one included". "beginning with this one as it is". */
    private static void daysCountThisOne() {
        Twin.keeps("just enough work", 1, () -> Check.lodge("L3c162m112"), AshlarLodge::daysLeft);
        Twin.keeps("one face too much", 2, () -> Check.lodge("L3c162c111m112"), AshlarLodge::daysLeft);
        Twin.keeps("one stone too much", 2, () -> Check.lodge("L3c163m112"), AshlarLodge::daysLeft);
        AshlarLodge x = Check.lodge("L3c162m112");
        x.cut(0, 0, 9);
        Check.same("the work that is left", x.daysLeft(), 2);
    }

    /** "Each following day is without frost." */
    private static void daysFollowWithoutFrost() {
        Twin.keeps("frost on the day 0", 2, () -> Check.lodge("L3fc162m112"), AshlarLodge::daysLeft);
        Twin.keeps("frost, two days' work", 3, () -> Check.lodge("L3fc164m112"), AshlarLodge::daysLeft);
        AshlarLodge x = Check.lodge("L3c111");
        x.addMason(1, 1);
        Check.same("one who was just added", x.daysLeft(), 2);
    }

    /** "NONE if 99 days are not enough": they never are if no mason can cut the stone. */
    private static void daysNeedAMasonWhoCan() {
        Twin.keeps("no mason", NONE, () -> Check.lodge("L3c111"), AshlarLodge::daysLeft);
        for (int f = 2; f <= 6; f++) {
            String course = "L3c1" + f + "1m10";
            int faces = f;
            Twin.keeps("just strong enough", 1, () -> Check.lodge(course + faces), AshlarLodge::daysLeft);
            Twin.keeps("too weak", NONE, () -> Check.lodge(course + (faces - 1)), AshlarLodge::daysLeft);
        }
        Twin.keeps("six too weak ones", NONE, () -> Check.lodge("L3c161" + "m105".repeat(6)), AshlarLodge::daysLeft);
        Twin.keeps("one course of two", NONE, () -> Check.lodge("L3c111c161m105"), AshlarLodge::daysLeft);
    }

    /** "1 to 99": the most are 54 days, for 6 courses of 9 stones at one a day, and one more with frost now. */
    private static void daysNeedAtMost55() {
        String most = "c169c169c169c169c169c169";
        Twin.keeps("54 stones", 54, () -> Check.lodge("L3" + most + "m106"), AshlarLodge::daysLeft);
        Twin.keeps("54 stones and frost", 55, () -> Check.lodge("L3f" + most + "m106"), AshlarLodge::daysLeft);
        Twin.keeps("11 of 12", 54, () -> Check.lodge("L3" + most + "m111"), AshlarLodge::daysLeft);
        Twin.keeps("two a day", 27, () -> Check.lodge("L3" + most + "m112"), AshlarLodge::daysLeft);
        Twin.keeps("twelve a day", 5, () -> Check.lodge("L3" + most + "m112".repeat(6)), AshlarLodge::daysLeft);
    }

    /** "and with as many stones as needed": also where no room is left for one. */
    private static void daysNeedAsManyStonesAsNeeded() {
        AshlarLodge x = Twin.cut(24, 9);
        Check.same("no room, no work on this day", x.daysLeft(), 2);
        x.nextDay(false);
        Check.same("no room", x.daysLeft(), 1);
        Twin.keeps("27 stones", 2, () -> Check.lodge("L3c119c119c119m112m112"), AshlarLodge::daysLeft);
    }

    /** "the stones .. that the courses lack, stones that are cut or rejected now not counting". */
    private static void daysDoNotCountCutOrRejectedStones() {
        AshlarLodge x = Check.lodge("L3c112m101s000s000s009");
        Check.same("cut", x.daysLeft(), 2);
        x.inspect(2);
        Check.same("rejected", x.daysLeft(), 2);
        x.inspect(0);
        Check.same("accepted", x.daysLeft(), 1);
        x.set(0);
        Check.same("set", x.daysLeft(), 1);
        x.scrap(2);
        Check.same("scrapped", x.daysLeft(), 1);
        x.inspect(1);
        Check.same("none lacks", x.daysLeft(), 0);
    }

    /** "the masons work one after the other, ascending". */
    private static void masonsWorkAscending() {
        Twin.keeps("the weak one first", 1, () -> Check.lodge("L3c131c161m103m106"), AshlarLodge::daysLeft);
        Twin.keeps("the strong one first", 2, () -> Check.lodge("L3c131c161m106m103"), AshlarLodge::daysLeft);
        Twin.keeps("the last of six", 1, () -> Check.lodge("L3c161" + "m105".repeat(5) + "m106"),
                AshlarLodge::daysLeft);
    }

    /** "a stone for the lowest course that still lacks one and whose faces are at most the work that is left". */
    private static void masonsCutForTheLowestCourse() {
        Twin.keeps("the lowest first", 1, () -> Check.lodge("L3c121c141m106"), AshlarLodge::daysLeft);
        Twin.keeps("the next one for what is left", 2, () -> Check.lodge("L3c142c122m106"), AshlarLodge::daysLeft);
        Twin.keeps("one face short", 3, () -> Check.lodge("L3c142c122m105"), AshlarLodge::daysLeft);
        Twin.keeps("the lowest is too much", 1, () -> Check.lodge("L3c161c112m102m106"), AshlarLodge::daysLeft);
    }

    /** "Returns the greatest number of stones that are accepted now and can be set": none is accepted, or frost. */
    private static void setsNoneNow() {
        Twin.keeps("nothing there", 0, AshlarLodge::new, AshlarLodge::canSet);
        Twin.keeps("only cut ones", 0, () -> Check.lodge("L3c112m101s000s000"), AshlarLodge::canSet);
        Twin.keeps("one accepted", 1, Twin::busy, AshlarLodge::canSet);
        Twin.keeps("frost", 0, Twin::frozen, AshlarLodge::canSet);
        AshlarLodge x = Check.lodge("L3fc111m101s000");
        x.inspect(0);
        Check.same("frost on the day 0", x.canSet(), 0);
    }

    /** Accepts the first stones: of the course 0, which needs 2, of the course 1, which needs 1, of the course 2. */
    private static AshlarLodge accepted(String stones, int set) {
        AshlarLodge x = Check.lodge("L3c112c111c112m101" + stones);
        for (int s = 0; s < x.about(2); s++) {
            x.inspect(s);
        }
        for (int s = 0; s < set; s++) {
            x.set(s);
        }
        Twin.forget(x);
        return x;
    }

    /** "can be set one behind the other without other actions": above a course that stays open none can. */
    private static void setsUpToTheFirstOpenCourse() {
        Twin.keeps("one of two below", 1, () -> accepted("s000s010s020", 0), AshlarLodge::canSet);
        Twin.keeps("two of two below", 4, () -> accepted("s000s000s010s020", 0), AshlarLodge::canSet);
        Twin.keeps("none in the middle", 2, () -> accepted("s000s000s020s020", 0), AshlarLodge::canSet);
        Twin.keeps("none below", 0, () -> accepted("s010s020", 0), AshlarLodge::canSet);
        Twin.keeps("the missing one is set", 3, () -> accepted("s000s000s010s020", 1), AshlarLodge::canSet);
        Twin.keeps("all below are set", 1, () -> accepted("s000s000s010s020", 3), AshlarLodge::canSet);
    }

    /** The same sentence: no more than a course needs. */
    private static void setsNoMoreThanNeeded() {
        Twin.keeps("three for two", 2, () -> accepted("s000s000s000", 0), AshlarLodge::canSet);
        Twin.keeps("two for one left", 1, () -> accepted("s000s000s000", 1), AshlarLodge::canSet);
        Twin.keeps("one for none left", 0, () -> accepted("s000s000s000", 2), AshlarLodge::canSet);
        Twin.keeps("too many everywhere", 5, () -> accepted("s000s000s000s010s010s020s020s020", 0),
                AshlarLodge::canSet);
    }

    /** The same sentence: all stones that there may be. */
    private static void setsAll24() {
        AshlarLodge x = Check.lodge("L9c114c114c114c114c114c114m904m904m904m904m904m904");
        for (int s = 0; s < 24; s++) {
            x.cut(s / 4, s / 4, 9);
            x.inspect(s);
        }
        for (int s = 0; s < 24; s++) {
            Check.same("canSet", x.canSet(), 24 - s);
            x.set(s);
        }
        Check.same("canSet behind the last", x.canSet(), 0);
    }

    /** "bound: 0 to 9"; "IllegalArgumentException if bound is out of range". */
    private static void earnsWithBounds0To9() {
        for (int far : FAR) {
            Twin.refuses("wouldEarn(" + far + ")", Check.ARGUMENT, Twin::busy, x -> x.wouldEarn(far));
        }
        Twin.refuses("wouldEarn(10)", Check.ARGUMENT, Twin::busy, x -> x.wouldEarn(10));
        Twin.keeps("wouldEarn(0)", 0, Twin::busy, x -> x.wouldEarn(0));
        Twin.keeps("wouldEarn(9)", 5, Twin::busy, x -> x.wouldEarn(9));
        Twin.keeps("of nothing", 0, AshlarLodge::new, x -> x.wouldEarn(9));
    }

    /** "that would be accepted": the fault is at most the bound. */
    private static void earnsForAFaultAtTheBound() {
        for (int f = 0; f <= 9; f++) {
            String lodge = "L3c111m101s00" + f;
            int fault = f;
            Twin.keeps("at the bound", 1, () -> Check.lodge(lodge), x -> x.wouldEarn(fault));
            if (f > 0) {
                Twin.keeps("one above the bound", 0, () -> Check.lodge(lodge), x -> x.wouldEarn(fault - 1));
            }
        }
        Twin.keeps("the greatest", 17 * 54, () -> Check.lodge("L0c161m901" + "s009".repeat(17)), x -> x.wouldEarn(9));
    }

    /** "an inspection of all stones with the state 0": of no other. */
    private static void earnsForTheState0Alone() {
        AshlarLodge x = Check.lodge("L3c111m101s000s009");
        Check.same("two are cut", x.wouldEarn(9), 2);
        x.inspect(0);
        Check.same("one is accepted", x.wouldEarn(9), 1);
        x.inspect(1);
        Check.same("one is rejected", x.wouldEarn(9), 0);
        x.scrap(1);
        x.set(0);
        Check.same("one is scrapped, one is set", x.wouldEarn(9), 0);
    }

    /** "half of this, rounded down, for a stone that was recut": for each of them, not for their sum. */
    private static void earnsHalvesRoundedDownEach() {
        AshlarLodge x = Check.lodge("L0c919c819m102s001s001s000");
        for (int s = 0; s < 2; s++) {
            x.inspect(s);
            x.recut(0, s, 1);
        }
        Check.same("twice half of 1, and 1", x.wouldEarn(0), 1);
        x.setRate(0, 3);
        Check.same("twice half of 3, and 3", x.wouldEarn(0), 5);
    }

    /** "NONE if there is no such stone". */
    private static void worstNeedsABadStone() {
        Twin.keeps("nothing there", NONE, AshlarLodge::new, AshlarLodge::worstMark);
        AshlarLodge x = Check.lodge("L3c111m101m101s100s109");
        Check.same("none is inspected", x.worstMark(), NONE);
        x.inspect(0);
        Check.same("one is accepted", x.worstMark(), NONE);
        x.set(0);
        Check.same("one is set", x.worstMark(), NONE);
        x.inspect(1);
        Check.same("one is rejected", x.worstMark(), 1);
        x.scrap(1);
        Check.same("one is scrapped", x.worstMark(), 1);
        Twin.answers("all 24", 0, () -> allRejected(), AshlarLodge::worstMark);
    }

    private static AshlarLodge allRejected() {
        AshlarLodge x = Twin.cut(24, 9);
        for (int s = 0; s < 24; s++) {
            x.inspect(s);
        }
        return x;
    }

    /** "with the most stones ..., among several the lowest one". */
    private static void worstIsTheLowestOfSeveral() {
        AshlarLodge x = Check.lodge("L3c111m101m101m101s209s109s009s109s209");
        int[] due = {2, 1, 0, 1, 1};
        for (int s = 0; s < due.length; s++) {
            x.inspect(s);
            Check.same("behind the stone " + s, x.worstMark(), due[s]);
        }
    }

    /** "that are rejected or scrapped": both together. */
    private static void worstCountsRejectedAndScrapped() {
        AshlarLodge x = Check.lodge("L3c111m101m101s009s109s109");
        x.inspect(0);
        x.inspect(1);
        x.scrap(1);
        Check.same("one each", x.worstMark(), 0);
        x.inspect(2);
        Check.same("one rejected and one scrapped", x.worstMark(), 1);
        x.scrap(0);
        Check.same("that one as well", x.worstMark(), 1);
    }
}
