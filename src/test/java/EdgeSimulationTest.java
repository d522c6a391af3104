/** Promise 31: a test for each sentence that names a boundary, quoted above it. */
public final class EdgeSimulationTest {
    public static void main(String[] args) {
        takes1To99Rounds();
        takesAnySeed();
        overflowsLikeALong();
        playsEachRound();
        leavesOutWithoutMasons();
        leavesOutWithoutCourses();
        leavesOutWhatNoStoneIsThereFor();
        choosesTheMason();
        choosesTheCourse();
        choosesTheFault();
        choosesTheFrost();
        cutsInRounds0To2();
        inspectsInRounds3And4();
        setsInRound5();
        recutsInRound6();
        scrapsInRound6();
        beginsTheDayInRound7();
        leavesOutACutWithoutWork();
        leavesOutTheStone24();
        tells9999OrLess();
        tellsStonesThatAreSet();
        runsOnACopy();
        Check.end("EdgeSimulationTest");
    }

    private static void due(String what, int want, Twin.Maker maker, int r, int... later) {
        long seed = Seeds.seedFor(r, later);
        Twin.keeps(what, want, maker, x -> x.simulate(seed, 1 + later.length));
    }

    private static AshlarLodge sixMasons() {
        return Check.lodge("L3" + "m901".repeat(6));
    }

    /** On six masons alone each day with frost leaves 108 pence, and nothing else leaves any. */
    private static int frostOwed(long seed, int rounds) {
        int owed = 0;
        for (int r : Seeds.numbers(seed, rounds)) {
            owed += r % 8 == 7 && r / 8 % 4 == 0 ? 108 : 0;
        }
        return owed;
    }

    /** "m: number of rounds, 1 to 99"; "IllegalArgumentException if m is out of range". */
    private static void takes1To99Rounds() {
        for (int m : new int[] {0, 100, -1, Integer.MIN_VALUE, Integer.MAX_VALUE}) {
            Twin.refuses("simulate(7, " + m + ")", Check.ARGUMENT, Twin::busy, x -> x.simulate(7, m));
            Twin.refuses("simulate(7, " + m + ") of nothing", Check.ARGUMENT, AshlarLodge::new, x -> x.simulate(7, m));
        }
        Twin.keeps("one round of nothing", 0, AshlarLodge::new, x -> x.simulate(7, 1));
        Twin.keeps("99 rounds of nothing", 0, AshlarLodge::new, x -> x.simulate(7, 99));
    }

    /** "seed: any long". */
    private static void takesAnySeed() {
        for (long seed : new long[] {0, 1, -1, Long.MIN_VALUE, Long.MAX_VALUE, Integer.MIN_VALUE, 4294967296L}) {
            for (int m = 1; m <= 99; m++) {
                int rounds = m;
                Twin.keeps("simulate(" + seed + ", " + m + ")", frostOwed(seed, m), () -> sixMasons(),
                        x -> x.simulate(seed, rounds));
            }
        }
    }

    /** "(with long overflow), and r = (int) (x >>> 33)": from 0 to the greatest int, never below 0. */
    private static void overflowsLikeALong() {
        due("the least r", 10, () -> cutStone(), 0, 3);
        due("the greatest r with frost", 108, () -> sixMasons(), Integer.MAX_VALUE - 24);
        due("the greatest r", 0, () -> sixMasons(), Integer.MAX_VALUE);
        due("the highest bit of x alone", 108, () -> sixMasons(), (1 << 30) + 7);
        due("all bits but that", 108, () -> sixMasons(), (1 << 30) - 32 + 7);
    }

    /** Two masons without stones, a course of 2 faces; the first mason takes 5 pence a face, the second 3. */
    private static AshlarLodge cutStone() {
        return Check.lodge("L3c929m512m312");
    }

    /** "m rounds": the last one is played, and none behind it. */
    private static void playsEachRound() {
        for (int m = 1; m <= 99; m++) {
            int rounds = m;
            long seed = seedWithFrostInRound(m);
            int before = m == 1 ? 0 : frostOwed(seed, m - 1);
            Twin.answers("the round " + m, before + 108, () -> sixMasons(), x -> x.simulate(seed, rounds));
            if (m > 1) {
                Twin.answers("the rounds ahead of it", before, () -> sixMasons(), x -> x.simulate(seed, rounds - 1));
            }
        }
    }

    private static long seedWithFrostInRound(int round) {
        for (long seed = 1; seed < 10000; seed++) {
            int r = Seeds.numbers(seed, round)[round - 1];
            if (r % 8 == 7 && r / 8 % 4 == 0) {
                return seed;
            }
        }
        throw new IllegalStateException("no such seed");
    }

    /** "what is not possible is left out": M is 0, so that no mason cuts. */
    private static void leavesOutWithoutMasons() {
        for (int r = 0; r < 8; r++) {
            due("round " + r + " without masons", 0, () -> Check.lodge("L3c111"), r, 3);
            due("round " + r + " without anything", 0, AshlarLodge::new, r, 3);
        }
    }

    /** The same sentence: C is 0, so that no stone is cut; a day begins all the same. */
    private static void leavesOutWithoutCourses() {
        for (int r = 0; r < 7; r++) {
            due("round " + r + " without courses", 0, () -> Check.lodge("L3m112"), r, 3);
        }
        due("round 7 without courses", 2, () -> Check.lodge("L3m112"), 7, 3);
    }

    /** The same sentence: no stone has the state that is wanted. */
    private static void leavesOutWhatNoStoneIsThereFor() {
        due("none to inspect", 1, () -> allInspected(), 3);
        due("none to inspect", 1, () -> allInspected(), 4);
        due("none to set", 1, () -> allInspected(), 5);
        due("none to recut, none to scrap", 1, () -> allInspected(), 6);
    }

    /** A stone of the upper course is accepted, for one pence, and another one is scrapped. */
    private static AshlarLodge allInspected() {
        AshlarLodge x = Check.lodge("L3c111c111m112s010s009");
        x.inspect(0);
        x.inspect(1);
        x.scrap(1);
        return x;
    }

    /** "the mason r / 8 % M": the least, the greatest, and the first one again. */
    private static void choosesTheMason() {
        String masons = "m112m212m312m412m512m612";
        for (int eighth = 0; eighth <= 7; eighth++) {
            due("mason of six", eighth % 6 + 1, () -> Check.lodge("L3c119" + masons), 8 * eighth, 3);
            due("mason of one", 1, () -> Check.lodge("L3c119m112"), 8 * eighth, 3);
            due("mason of two", eighth % 2 + 1, () -> Check.lodge("L3c119m112m212"), 8 * eighth, 3);
        }
    }

    /** "a stone of the course r / 64 % C": the least, the greatest, and the first one again. */
    private static void choosesTheCourse() {
        String courses = "c119c129c139c149c159c169";
        for (int part = 0; part <= 13; part++) {
            due("course of six", part % 6 + 1, () -> Check.lodge("L3m112" + courses), 64 * part, 3);
            due("course of two", part % 2 + 1, () -> Check.lodge("L3m112c119c129"), 64 * part, 3);
        }
        due("just below the second course", 1, () -> Check.lodge("L3m112" + courses), 64 - 8 + 2, 3);
        due("just below the first one again", 6, () -> Check.lodge("L3m112" + courses), 6 * 64 - 8 + 2, 3);
    }

    /** "with the fault r / 1024 % 10": 0 to 9, and 0 again. */
    private static void choosesTheFault() {
        for (int part = 0; part <= 20; part++) {
            int fault = part % 10;
            due("at the bound", 1, () -> Check.lodge("L" + fault + "c119m112"), 1024 * part, 3);
            if (fault > 0) {
                due("one above the bound", 0, () -> Check.lodge("L" + (fault - 1) + "c119m112"), 1024 * part, 3);
            }
        }
        due("just below the fault 1", 1, () -> Check.lodge("L0c119m112"), 1024 - 8 + 2, 3);
        due("just below the fault 0 again", 0, () -> Check.lodge("L8c119m112"), 10 * 1024 - 8 + 2, 3);
    }

    /** "the next day begins, with frost if r / 8 % 4 is 0". */
    private static void choosesTheFrost() {
        for (int eighth = 0; eighth <= 8; eighth++) {
            due("frost", eighth % 4 == 0 ? 108 : 0, () -> sixMasons(), 8 * eighth + 7);
        }
    }

    /** "0 to 2: the mason .. cuts a stone": the rounds 0, 1 and 2 do, 3 does not. */
    private static void cutsInRounds0To2() {
        for (int kind = 0; kind <= 2; kind++) {
            due("cut and inspected", 10, () -> cutStone(), kind, 3);
            due("cut, not inspected", 0, () -> cutStone(), kind, kind);
        }
        due("inspected, not cut", 0, () -> cutStone(), 3, 3);
    }

    /** The stones 0 and 1 are cut and bring 10 and 6 pence, 2 is accepted. */
    private static AshlarLodge threeStones() {
        AshlarLodge x = Check.lodge("L3c929m512m312s000s000s100");
        x.inspect(0);
        x.pay();
        Twin.forget(x);
        return x;
    }

    /** "3 and 4: the lowest stone with the state 0 is inspected." */
    private static void inspectsInRounds3And4() {
        for (int kind = 3; kind <= 4; kind++) {
            due("the lowest", 10, () -> threeStones(), kind);
            due("the next one", 16, () -> threeStones(), kind, 3);
            due("there is no other", 16, () -> threeStones(), kind, 3, 4);
        }
    }

    /** The stones 0 and 1 are of an upper course, 2 and 3 of the lower one, which needs one; all are accepted. */
    private static AshlarLodge twoCourses(boolean frost) {
        AshlarLodge x = Check.lodge("L3c111c112m112s010s010s000s000");
        for (int s = 0; s < 4; s++) {
            x.inspect(s);
        }
        x.nextDay(frost);
        x.pay();
        Twin.forget(x);
        return x;
    }

    /** "5: the lowest stone that can be set is set." */
    private static void setsInRound5() {
        due("one of the lower course", 10000, () -> twoCourses(false), 5);
        due("one of the upper course", 20000, () -> twoCourses(false), 5, 5);
        due("the last one that can be", 30000, () -> twoCourses(false), 5, 5, 5);
        due("its course is complete", 30000, () -> twoCourses(false), 5, 5, 5, 5);
        due("frost", 0, () -> twoCourses(true), 5);
        due("frost that begins", 2, () -> twoCourses(false), 7, 5);
        due("frost that ends", 10000, () -> twoCourses(true), 7 + 8, 5);
        due("a rejected stone stays so", 10001, () -> acceptedAndRejected(), 5, 3);
    }

    private static AshlarLodge acceptedAndRejected() {
        AshlarLodge x = Check.lodge("L3c911c821m112s000s004");
        x.inspect(0);
        x.inspect(1);
        return x;
    }

    private static AshlarLodge rejected(String courses, int strength) {
        AshlarLodge x = Check.lodge("L3" + courses + "m90" + strength + "s004");
        x.inspect(0);
        return x;
    }

    /** "6: the lowest stone with the state 2 is recut by the mason r / 8 % M for the course recutFor() of it". */
    private static void recutsInRound6() {
        due("half of 9 is owed", 4, () -> rejected("c911c811", 1), 6, 3);
        due("the work is just enough", 27, () -> rejected("c911c861", 3), 6, 3);
        due("the greatest of the smaller ones", 9, () -> rejected("c911c161c821", 9), 6, 3);
        AshlarLodge x = Check.lodge("L3c911c861m112m212m312m412m512m612s004");
        x.inspect(0);
        for (int eighth = 0; eighth <= 6; eighth++) {
            long seed = Seeds.seedFor(8 * eighth + 6, 3);
            Check.same("recut by the mason", x.simulate(seed, 2), (eighth % 6 + 1) * 3);
        }
    }

    /** "if that is not possible, it is scrapped": no course, too little work; the next stone is the lowest one then. */
    private static void scrapsInRound6() {
        due("none is smaller", 0, () -> rejected("c911c911", 9), 6, 3);
        due("the work is one short", 0, () -> rejected("c911c861", 2), 6, 3);
        AshlarLodge x = Check.lodge("L3c911c811m901s019s004");
        x.inspect(0);
        x.inspect(1);
        due("a scrapped one stays so", 0, () -> rejected("c911", 9), 6, 6, 3);
        Check.same("the first one is scrapped", x.simulate(Seeds.seedFor(6, 3), 2), 0);
        Check.same("the second one is recut", x.simulate(Seeds.seedFor(6, 6, 3), 3), 4);
    }

    /** "7: the next day begins": work is there again, or none with frost. */
    private static void beginsTheDayInRound7() {
        due("no work yet", 0, () -> worn(), 0, 3);
        due("work on the next day", 6, () -> worn(), 7 + 8, 0, 3);
        due("no work with frost", 2, () -> worn(), 7, 0, 3);
    }

    private static AshlarLodge worn() {
        AshlarLodge x = Check.lodge("L9c169m106");
        x.cut(0, 0, 0);
        x.inspect(0);
        x.pay();
        Twin.forget(x);
        return x;
    }

    /** "what is not possible is left out": the work that is left is one short, or just enough. */
    private static void leavesOutACutWithoutWork() {
        due("just enough", 6, () -> Check.lodge("L3c169m106"), 0, 3);
        due("one short", 0, () -> Check.lodge("L3c169m105"), 0, 3);
    }

    /** The same sentence: there are 24 stones, or one less. */
    private static void leavesOutTheStone24() {
        long seed = Seeds.seedFor(0, 3);
        Check.same("23 stones", inspected(23).simulate(seed, 2), 23 + 1);
        Check.same("24 stones", inspected(24).simulate(seed, 2), 24);
    }

    private static AshlarLodge inspected(int stones) {
        AshlarLodge x = Twin.cut(stones, 3);
        for (int s = 0; s < stones; s++) {
            x.inspect(s);
        }
        x.nextDay(false);
        return x;
    }

    /** 9990 pence are owed; the inspection of the one stone that is cut brings this many more. */
    private static AshlarLodge rich(int more, int rate) {
        AshlarLodge x = Check.lodge("L3" + "m912".repeat(6) + "c169c1" + more / rate + "9s000s010");
        x.inspect(0);
        for (int day = 0; day < 92; day++) {
            x.nextDay(true);
        }
        x.setRate(0, rate);
        return x;
    }

    /** "(the pence that are owed to all masons at the end, or 9999 if these are more)". */
    private static void tells9999OrLess() {
        long seed = Seeds.seedFor(3);
        Check.same("9998", rich(8, 8).simulate(seed, 1), 9998);
        Check.same("9999", rich(9, 9).simulate(seed, 1), 9999);
        Check.same("10000", rich(10, 2).simulate(seed, 1), 9999);
        Check.same("10098", rich(9, 9).simulate(Seeds.seedFor(7), 1), 9999);
        AshlarLodge x = rich(10, 2);
        x.nextDay(false);
        Check.same("10000 and a stone that is set", x.simulate(Seeds.seedFor(3, 5), 2), 19999);
    }

    /** "10000 * (the number of stones that are set at the end)": none, and all 24. */
    private static void tellsStonesThatAreSet() {
        AshlarLodge x = Check.lodge("L9c114c114c114c114c114c114m904m904m904m904m904m904");
        for (int s = 0; s < 24; s++) {
            Check.same("some are set", x.simulate(Seeds.seedFor(3), 1), 10009 * s);
            x.cut(s / 4, s / 4, 9);
            x.inspect(s);
            x.set(s);
        }
        Check.same("all are set", x.simulate(Seeds.seedFor(3), 1), 240000 + 216);
    }

    /** "Simulates m rounds on a copy of the state": what was simulated before has no effect. */
    private static void runsOnACopy() {
        AshlarLodge x = Twin.busy();
        String before = Check.tell(x);
        int first = x.simulate(42, 99);
        for (int i = 0; i < 20; i++) {
            x.simulate(i, 99);
            x.errorPosition();
            x.runScript(2, 20003_50001L);
        }
        Check.same("the same again", x.simulate(42, 99), first);
        Check.same("the state", Check.tell(x), before);
    }
}
