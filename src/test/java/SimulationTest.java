/** Promise 31: simulations. */
public final class SimulationTest {
    public static void main(String[] args) {
        refuses();
        leavesOutWhatIsNotPossible();
        playsSingleRounds();
        playsTwoRounds();
        recutsOrScraps();
        setsLowest();
        tellsAtMost9999();
        Check.end("SimulationTest");
    }

    private static void due(AshlarLodge x, long seed, int m, int want) {
        Check.same("simulate(" + seed + ", " + m + ")", x.simulate(seed, m), want);
    }

    private static void refuses() {
        AshlarLodge x = new AshlarLodge();
        Check.fails("no round", Check.ARGUMENT, () -> x.simulate(1, 0));
        Check.fails("100 rounds", Check.ARGUMENT, () -> x.simulate(1, 100));
        Check.fails("less than no round", Check.ARGUMENT, () -> x.simulate(1, Integer.MIN_VALUE));
        due(x, 0, 1, 0);
        due(x, 0, 99, 0);
    }

    private static void leavesOutWhatIsNotPossible() {
        AshlarLodge empty = new AshlarLodge();
        AshlarLodge wall = Check.lodge("L3c111");
        for (int r = 0; r < 8; r++) {
            due(empty, Seeds.seedFor(r), 1, 0);
            due(wall, Seeds.seedFor(r), 1, 0);
        }
        due(Check.lodge("L3m512"), Seeds.seedFor(0), 1, 0);
        due(Check.lodge("L3m512"), Seeds.seedFor(7), 1, 10);
        due(Check.lodge("L3m512"), Seeds.seedFor(7 + 8), 1, 0);
        due(Check.lodge("L3m512"), Seeds.seedFor(7 + 32), 1, 10);
        due(Check.lodge("L3m512"), Seeds.seedFor(7 + 64), 1, 10);
        due(Check.lodge("L3m512"), Seeds.seedFor(Integer.MAX_VALUE), 1, 0);
    }

    private static void playsSingleRounds() {
        AshlarLodge x = Check.lodge("L3c912c611m512m204s009s000s001s000");
        due(x, Seeds.seedFor(3), 1, 0);
        x.inspect(0);
        due(x, Seeds.seedFor(3), 1, 5);
        due(x, Seeds.seedFor(4), 1, 5);
        due(x, Seeds.seedFor(5), 1, 0);
        x.inspect(1);
        due(x, Seeds.seedFor(5), 1, 10005);
        x.inspect(2);
        x.set(1);
        due(x, Seeds.seedFor(5), 1, 20010);
        due(x, Seeds.seedFor(7), 1, 10010 + 14);
        x.nextDay(true);
        due(x, Seeds.seedFor(5), 1, 10010 + 14);
    }

    private static void playsTwoRounds() {
        // The mason, the course and the fault of a cut tell themselves in what its inspection brings.
        AshlarLodge x = Check.lodge("L3c912c832m512m412");
        for (int round = 0; round < 3; round++) {
            due(x, Seeds.seedFor(round, 3), 2, 5);
            due(x, Seeds.seedFor(round + 8, 4), 2, 4);
            due(x, Seeds.seedFor(round + 64, 3), 2, 15);
            due(x, Seeds.seedFor(round + 64 + 8, 3), 2, 12);
            due(x, Seeds.seedFor(round + 3 * 1024 + 64 + 8, 4), 2, 12);
            due(x, Seeds.seedFor(round + 4 * 1024 + 64 + 8, 4), 2, 0);
            due(x, Seeds.seedFor(round + 9 * 1024, 4), 2, 0);
            due(x, Seeds.seedFor(round + 10 * 1024, 4), 2, 5);
        }
        AshlarLodge recut = Check.lodge("L3c912c832c711m512m412s004");
        recut.inspect(0);
        due(recut, Seeds.seedFor(6, 3), 2, 7);
        due(recut, Seeds.seedFor(6 + 8, 3), 2, 6);
    }

    private static void recutsOrScraps() {
        AshlarLodge own = Check.lodge("L3c932c822m512m101s014s003");
        own.inspect(0);
        due(own, Seeds.seedFor(6, 3), 2, 15);
        own.inspect(1);
        due(own, Seeds.seedFor(6, 3), 2, 15);
        // The stone 0 cannot be recut: only when it is scrapped is the stone 1 the lowest one.
        AshlarLodge lowest = Check.lodge("L3c911c821m512s019s004");
        lowest.inspect(0);
        lowest.inspect(1);
        due(lowest, Seeds.seedFor(6, 3), 2, 0);
        due(lowest, Seeds.seedFor(6, 6, 3), 3, 5);
        // Half of 5 faces is too much work for a strength of 2.
        AshlarLodge weak = Check.lodge("L3c951c851m102s009");
        weak.inspect(0);
        weak.setBound(9);
        due(weak, Seeds.seedFor(6, 3), 2, 0);
        AshlarLodge strong = Check.lodge("L3c951c851m903s009");
        strong.inspect(0);
        strong.setBound(9);
        due(strong, Seeds.seedFor(6, 3), 2, 22);
    }

    private static void setsLowest() {
        AshlarLodge x = Check.lodge("L3c911c811m512s000s010s000");
        x.inspect(1);
        due(x, Seeds.seedFor(5), 1, 5);
        x.inspect(0);
        due(x, Seeds.seedFor(5), 1, 10010);
        due(x, Seeds.seedFor(5, 5), 2, 20010);
        due(x, Seeds.seedFor(5, 5, 5), 3, 20010);
        due(x, Seeds.seedFor(7, 5), 2, 20);
        due(x, Seeds.seedFor(7 + 8, 5), 2, 10010);
    }

    private static void tellsAtMost9999() {
        AshlarLodge x = Check.lodge("L3c111m912m912m912m912m912m912s000");
        x.inspect(0);
        x.set(0);
        for (int day = 0; day < 92; day++) {
            x.nextDay(true);
        }
        due(x, Seeds.seedFor(3), 1, 19945);
        due(x, Seeds.seedFor(7), 1, 19999);
        due(x, Seeds.seedFor(7 + 8), 1, 19945);
    }
}
