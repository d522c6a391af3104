/** Promise 30: a test for each sentence that names a boundary, quoted above it. */
public final class EdgeScriptTest {
    private static final int NONE = AshlarLodge.NONE;

    public static void main(String[] args) {
        takes1To3Commands();
        takesNumbersFrom0();
        takesAtMost5DigitsForACommand();
        hasZerosBeforeIt();
        tellsTheFirstThatFails();
        runsOnACopy();
        everyGroup("busy", Twin::busy);
        everyGroup("frozen", Twin::frozen);
        everyGroup("empty", AshlarLodge::new);
        everyGroup("many stones", () -> many());
        comparesPenceOwed();
        comparesStonesSet();
        cutsTheLastStone();
        readsTwoDigitsForAStone();
        leavesTheBoundTillTheNextCommand();
        Check.end("EdgeScriptTest");
    }

    /** "n: number of commands, 1 to 3"; "IllegalArgumentException if n is out of range". */
    private static void takes1To3Commands() {
        for (int n : new int[] {0, 4, -1, Integer.MIN_VALUE, Integer.MAX_VALUE}) {
            Twin.refuses("runScript(" + n + ", 50000)", Check.ARGUMENT, Twin::busy, x -> x.runScript(n, 50000));
            Twin.refuses("runScript(" + n + ", 0)", Check.ARGUMENT, Twin::busy, x -> x.runScript(n, 0));
        }
        Twin.keeps("one", NONE, Twin::busy, x -> x.runScript(1, 50000));
        Twin.keeps("two", NONE, Twin::busy, x -> x.runScript(2, 50000_50000L));
        Twin.keeps("three", NONE, Twin::busy, x -> x.runScript(3, 50000_50000_50000L));
    }

    /** "(0 or more)"; "if script is negative". */
    private static void takesNumbersFrom0() {
        for (int i = 1; i <= 3; i++) {
            int n = i;
            Twin.keeps("0", 0, Twin::busy, x -> x.runScript(n, 0));
            Twin.refuses("-1", Check.ARGUMENT, Twin::busy, x -> x.runScript(n, -1));
            Twin.refuses("-50000", Check.ARGUMENT, Twin::busy, x -> x.runScript(n, -50000));
            Twin.refuses("the least", Check.ARGUMENT, Twin::busy, x -> x.runScript(n, Long.MIN_VALUE));
        }
    }

    /** "a number of at most 5 * n digits"; "or has more than 5 * n digits". */
    private static void takesAtMost5DigitsForACommand() {
        Twin.keeps("99999", 0, Twin::busy, x -> x.runScript(1, 99999));
        Twin.refuses("100000", Check.ARGUMENT, Twin::busy, x -> x.runScript(1, 100000));
        Twin.refuses("50000 and more", Check.ARGUMENT, Twin::busy, x -> x.runScript(1, 50000_50000L));
        Twin.keeps("10 digits", 0, Twin::busy, x -> x.runScript(2, 99999_99999L));
        Twin.refuses("11 digits", Check.ARGUMENT, Twin::busy, x -> x.runScript(2, 100000_00000L));
        Twin.keeps("15 digits", 0, Twin::busy, x -> x.runScript(3, 99999_99999_99999L));
        Twin.refuses("16 digits", Check.ARGUMENT, Twin::busy, x -> x.runScript(3, 100000_00000_00000L));
        // Of this number the lowest 32 bits alone would be a script.
        Twin.refuses("2 to the 32nd and 50000", Check.ARGUMENT, Twin::busy, x -> x.runScript(1, 4294967296L + 50000));
        for (int i = 1; i <= 3; i++) {
            int n = i;
            Twin.refuses("the greatest", Check.ARGUMENT, Twin::busy, x -> x.runScript(n, Long.MAX_VALUE));
        }
    }

    /** "the first command is the highest group of the number (with zeros before it, if it has fewer digits)". */
    private static void hasZerosBeforeIt() {
        Twin.keeps("the first is 00000", 0, Twin::busy, x -> x.runScript(2, 50000));
        Twin.keeps("so are two", 0, Twin::busy, x -> x.runScript(3, 50000));
        Twin.keeps("the first is 00005", 0, Twin::busy, x -> x.runScript(2, 5_50000L));
        Twin.keeps("it is 00005 alone", 0, Twin::busy, x -> x.runScript(1, 5));
    }

    /** "Returns the index, from 0, of the first command that fails; NONE if all succeed." */
    private static void tellsTheFirstThatFails() {
        Twin.keeps("the first", 0, Twin::busy, x -> x.runScript(3, 0));
        Twin.keeps("the second", 1, Twin::busy, x -> x.runScript(3, 50000_00000_50000L));
        Twin.keeps("the second and the third", 1, Twin::busy, x -> x.runScript(3, 50000_00000_00000L));
        Twin.keeps("the third", 2, Twin::busy, x -> x.runScript(3, 50000_50000_00000L));
        Twin.keeps("none", NONE, Twin::busy, x -> x.runScript(3, 50000_50000_50001L));
    }

    /** "Runs a script on a copy of the state": also a later script finds all as it was. */
    private static void runsOnACopy() {
        Twin.keeps("all commands that change something", NONE, Twin::busy, x -> x.runScript(3, 60009_20003_40004L));
        Twin.keeps("and the others", NONE, Twin::busy, x -> x.runScript(3, 70001_10000_50001L));
        Twin.keeps("fails behind a change", 1, Twin::busy, x -> x.runScript(2, 31101_31101L));
        Twin.keeps("twice the same", NONE, Twin::busy, x -> Math.max(x.runScript(1, 40004), x.runScript(1, 40004)));
    }

    private static boolean works(Check.Call call) {
        return Check.answer(call) instanceof Integer;
    }

    /** Whether the command succeeds, asked of the methods themselves on a lodge of its own. */
    private static boolean succeeds(AshlarLodge x, int group) {
        int second = group / 1000 % 10;
        int third = group / 100 % 10;
        int fourth = group / 10 % 10;
        int fifth = group % 10;
        int lastTwo = group % 100;
        switch (group / 10000) {
            case 1: return fifth == 0 && works(() -> x.cut(second, third, fourth));
            case 2: return group < 20100 && works(() -> x.inspect(lastTwo));
            case 3: return works(() -> x.recut(second, lastTwo, third));
            case 4: return group < 40100 && works(() -> x.set(lastTwo));
            case 5: return group == 50000 || group == 50001;
            case 6: return group < 60010;
            case 7: return group < 70100 && works(() -> x.scrap(lastTwo));
            case 8: return x.about(9) >= group - 80000;
            case 9: return group % 1000 < 10 && second < x.about(0) && x.course(second, 3) == fifth;
            default: return false;
        }
    }

    /**
     * "The commands 1 to 7 fail if the method with this effect would throw an exception; commands with courses, masons
     * or stones that do not exist fail, and so does any other group (also one with another digit where a 0 is
     * written)."
     */
    private static void everyGroup(String lodge, Twin.Maker maker) {
        AshlarLodge asked = maker.make();
        for (int group = 0; group < 100000; group++) {
            if (group % 250 == 0) {
                asked = maker.make();
            }
            int due = succeeds(maker.make(), group) ? NONE : 0;
            int answer = asked.runScript(1, group);
            if (answer != due) {
                Check.same(lodge + ": runScript(1, " + group + ")", answer, due);
            }
        }
    }

    /** Stones with two digits: 12 is rejected, 11 is accepted, the others are cut. */
    private static AshlarLodge many() {
        AshlarLodge x = Check.lodge("L3c912c811m112m112");
        for (int s = 0; s < 13; s++) {
            x.cut(s / 12, 0, s == 12 ? 9 : 0);
        }
        x.inspect(12);
        x.inspect(11);
        Twin.forget(x);
        return x;
    }

    /** "8 v w x y: succeeds if vwxy pence or more are owed to all masons": just as much, one more, and the greatest. */
    private static void comparesPenceOwed() {
        Twin.keeps("none of a new object", NONE, AshlarLodge::new, x -> x.runScript(1, 80000));
        Twin.keeps("one of a new object", 0, AshlarLodge::new, x -> x.runScript(1, 80001));
        Twin.keeps("just as much", NONE, Twin::busy, x -> x.runScript(1, 80019));
        Twin.keeps("one more", 0, Twin::busy, x -> x.runScript(1, 80020));
        Twin.keeps("behind frost", NONE, Twin::busy, x -> x.runScript(2, 50001_80033L));
        Twin.keeps("behind frost one more", 1, Twin::busy, x -> x.runScript(2, 50001_80034L));
        Twin.keeps("the greatest", 0, Twin::busy, x -> x.runScript(1, 89999));
        AshlarLodge rich = Check.lodge("L3" + "m901".repeat(6));
        for (int day = 0; day < 93; day++) {
            rich.nextDay(true);
        }
        Check.same("10044 are owed", rich.runScript(1, 89999), NONE);
    }

    /** "9 c 0 0 v: succeeds if just v stones are set in the course c": one less, just as many, one more. */
    private static void comparesStonesSet() {
        Twin.keeps("one less", 0, Twin::busy, x -> x.runScript(1, 90000));
        Twin.keeps("just as many", NONE, Twin::busy, x -> x.runScript(1, 90001));
        Twin.keeps("one more", 0, Twin::busy, x -> x.runScript(1, 90002));
        Twin.keeps("none", NONE, Twin::busy, x -> x.runScript(1, 91000));
        Twin.keeps("just as many behind one more", NONE, Twin::busy, x -> x.runScript(2, 40004_90002L));
        Twin.keeps("as many as before behind one more", 1, Twin::busy, x -> x.runScript(2, 40004_90001L));
        Twin.keeps("no such course", 0, Twin::busy, x -> x.runScript(1, 92000));
        Twin.keeps("no course", 0, AshlarLodge::new, x -> x.runScript(1, 90000));
        AshlarLodge nine = Check.lodge("L3c119m112");
        for (int s = 0; s < 9; s++) {
            nine.cut(0, 0, 0);
            nine.inspect(s);
            nine.set(s);
        }
        Check.same("nine", nine.runScript(1, 90009), NONE);
        Check.same("eight", nine.runScript(1, 90008), 0);
    }

    /** "fail if the method with this effect would throw": when there are 24 stones, also if the script cut the last. */
    private static void cutsTheLastStone() {
        Twin.keeps("the 25th", 0, Twin::full, x -> x.runScript(1, 10000));
        AshlarLodge x = Twin.cut(23, 0);
        Check.same("the 24th", x.runScript(1, 11000), NONE);
        Check.same("the 25th behind it", x.runScript(3, 11000_50000_10000L), 2);
        Check.same("and again", x.runScript(3, 11000_50000_10000L), 2);
    }

    /** "xy and vwxy are decimal numbers." */
    private static void readsTwoDigitsForAStone() {
        Twin.keeps("inspects 10", NONE, () -> many(), x -> x.runScript(1, 20010));
        Twin.keeps("12 is not 2", 0, () -> many(), x -> x.runScript(1, 20012));
        Twin.keeps("sets 11", NONE, () -> many(), x -> x.runScript(1, 40011));
        Twin.keeps("11 is not 1", 0, () -> many(), x -> x.runScript(1, 40001));
        Twin.keeps("recuts 12", NONE, () -> many(), x -> x.runScript(1, 31112));
        Twin.keeps("scraps 12", NONE, () -> many(), x -> x.runScript(1, 70012));
        Twin.keeps("there is no 13", 0, () -> many(), x -> x.runScript(1, 20013));
        Twin.keeps("inspects 23", NONE, Twin::full, x -> x.runScript(1, 20023));
        Twin.keeps("there is no 24", 0, Twin::full, x -> x.runScript(1, 20024));
        Twin.keeps("there is no 99", 0, Twin::full, x -> x.runScript(1, 20099));
    }

    /** "6 0 0 0 v: the bound becomes v": 0 to 9, for the commands behind it. "(it succeeds also if .. rejected)". */
    private static void leavesTheBoundTillTheNextCommand() {
        Twin.keeps("a fault of 8, a bound of 8", NONE, Twin::busy, x -> x.runScript(3, 60008_20003_80024L));
        Twin.keeps("a fault of 8, a bound of 7", 2, Twin::busy, x -> x.runScript(3, 60007_20003_80024L));
        Twin.keeps("it is rejected then", NONE, Twin::busy, x -> x.runScript(3, 60007_20003_70003L));
        Twin.keeps("the least", NONE, Twin::busy, x -> x.runScript(1, 60000));
        Twin.keeps("the greatest", NONE, Twin::busy, x -> x.runScript(1, 60009));
    }
}
