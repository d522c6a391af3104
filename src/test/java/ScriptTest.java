/** Promise 30: scripts. */
public final class ScriptTest {
    private static final int NONE = AshlarLodge.NONE;

    public static void main(String[] args) {
        refuses();
        ordersCommands();
        cuts();
        inspects();
        recuts();
        setsAndCounts();
        beginsDays();
        changesBound();
        scraps();
        comparesOwed();
        refusesOtherGroups();
        Check.end("ScriptTest");
    }

    private static void due(AshlarLodge x, int n, long script, int want) {
        Check.same("runScript(" + n + ", " + script + ")", x.runScript(n, script), want);
    }

    private static void refuses() {
        AshlarLodge x = new AshlarLodge();
        Check.fails("n of 0", Check.ARGUMENT, () -> x.runScript(0, 0));
        Check.fails("n of 4", Check.ARGUMENT, () -> x.runScript(4, 0));
        Check.fails("n below 0", Check.ARGUMENT, () -> x.runScript(-1, 50000));
        Check.fails("below 0", Check.ARGUMENT, () -> x.runScript(1, -1));
        Check.fails("far below 0", Check.ARGUMENT, () -> x.runScript(3, Long.MIN_VALUE));
        Check.fails("6 digits", Check.ARGUMENT, () -> x.runScript(1, 100000));
        Check.fails("11 digits", Check.ARGUMENT, () -> x.runScript(2, 10000000000L));
        Check.fails("16 digits", Check.ARGUMENT, () -> x.runScript(3, 1000000000000000L));
        Check.fails("19 digits", Check.ARGUMENT, () -> x.runScript(3, Long.MAX_VALUE));
        due(x, 1, 99999, 0);
        due(x, 2, 9999999999L, 0);
        due(x, 3, 999999999999999L, 0);
    }

    private static void ordersCommands() {
        AshlarLodge x = new AshlarLodge();
        due(x, 1, 50000, NONE);
        due(x, 1, 0, 0);
        due(x, 2, 50000, 0);
        due(x, 2, 5000050001L, NONE);
        due(x, 2, 5000000000L, 1);
        due(x, 3, 5000050000L, 0);
        due(x, 3, 500005000050001L, NONE);
        due(x, 3, 500005000000000L, 2);
        due(x, 3, 500000000050000L, 1);
    }

    private static void cuts() {
        AshlarLodge x = Check.lodge("L3c652c412m512m204");
        due(x, 1, 10090, NONE);
        due(x, 1, 11130, NONE);
        due(x, 1, 10001, 0);
        due(x, 1, 12000, 0);
        due(x, 1, 10200, 0);
        due(x, 1, 11000, 0);
        due(x, 3, 100001000010000L, 2);
        due(x, 3, 100001000010100L, NONE);
        AshlarLodge full = Check.lodge("L3c111m112m112m112");
        for (int s = 0; s < 23; s++) {
            full.cut(s / 12, 0, 0);
        }
        due(full, 2, 1200012000L, 1);
    }

    private static void inspects() {
        AshlarLodge x = Check.lodge("L3c652c412m512m204s003s104");
        due(x, 1, 20000, NONE);
        due(x, 1, 20001, NONE);
        due(x, 1, 20002, 0);
        due(x, 1, 20010, 0);
        due(x, 1, 20100, 0);
        due(x, 1, 21000, 0);
        due(x, 2, 2000020000L, 1);
        due(x, 2, 2000120001L, 1);
        due(x, 2, 2000080025L, NONE);
        due(x, 2, 2000080026L, 1);
        due(x, 2, 2000180001L, 1);
        due(x, 2, 1000020002L, NONE);
    }

    private static void recuts() {
        AshlarLodge x = Check.lodge("L3c652c432m512m201s009s003");
        due(x, 1, 30100, 0);
        due(x, 2, 2000030100L, NONE);
        due(x, 2, 2000130101L, 1);
        due(x, 2, 2000030000L, 1);
        due(x, 2, 2000031100L, 1);
        due(x, 2, 2000032100L, 1);
        due(x, 2, 2000030200L, 1);
        due(x, 2, 2000030102L, 1);
        due(x, 3, 200003010020000L, NONE);
        due(x, 3, 200003010080001L, 2);
        AshlarLodge y = Check.lodge("L8c912c432m512s009");
        y.inspect(0);
        due(y, 3, 301002000080007L, NONE);
        due(y, 3, 301002000080008L, 2);
        AshlarLodge far = Check.lodge("L3c921c119m112m101");
        for (int s = 0; s < 12; s++) {
            far.cut(0, 1, 9);
        }
        far.nextDay(false);
        far.cut(0, 0, 9);
        far.inspect(12);
        due(far, 1, 31112, NONE);
        due(far, 1, 31121, 0);
    }

    private static void setsAndCounts() {
        AshlarLodge x = Check.lodge("L3c612c411m512s000s001s012s001");
        for (int s = 0; s < 4; s++) {
            x.inspect(s);
        }
        due(x, 1, 40000, NONE);
        due(x, 1, 40002, 0);
        due(x, 1, 40004, 0);
        due(x, 1, 40100, 0);
        due(x, 1, 41000, 0);
        due(x, 3, 400004000140002L, NONE);
        due(x, 3, 400004000140003L, 2);
        due(x, 2, 4000040000L, 1);
        due(x, 1, 90000, NONE);
        due(x, 1, 90001, 0);
        due(x, 2, 4000390001L, NONE);
        due(x, 3, 400004000190002L, NONE);
        due(x, 3, 400004000190001L, 2);
        due(x, 2, 4000091001L, 1);
        due(x, 2, 4000091000L, NONE);
        due(x, 1, 92000, 0);
        due(x, 1, 90010, 0);
        due(x, 1, 90100, 0);
        due(x, 2, 5000140000L, 1);
        AshlarLodge ten = Check.lodge("L3c119m112m112");
        for (int s = 0; s < 12; s++) {
            ten.cut(0, 0, 0);
            ten.inspect(s);
        }
        due(ten, 1, 40011, NONE);
        due(ten, 1, 40012, 0);
    }

    private static void beginsDays() {
        AshlarLodge x = Check.lodge("L3c612m512m304");
        x.addMason(2, 1);
        due(x, 1, 50002, 0);
        due(x, 1, 50009, 0);
        due(x, 1, 50010, 0);
        due(x, 1, 50100, 0);
        due(x, 1, 51000, 0);
        due(x, 1, 12000, 0);
        due(x, 2, 5000012000L, NONE);
        due(x, 2, 5000110000L, 1);
        due(x, 2, 5000180020L, NONE);
        due(x, 2, 5000180021L, 1);
        due(x, 2, 5000080001L, 1);
    }

    private static void changesBound() {
        AshlarLodge x = Check.lodge("L3c612m512s009");
        due(x, 3, 600092000080005L, NONE);
        due(x, 3, 600082000080005L, 2);
        due(x, 1, 60000, NONE);
        due(x, 1, 60010, 0);
        due(x, 1, 60100, 0);
        due(x, 1, 61000, 0);
    }

    private static void scraps() {
        AshlarLodge x = Check.lodge("L3c612m512s009s000");
        x.inspect(0);
        x.inspect(1);
        due(x, 1, 70000, NONE);
        due(x, 1, 70001, 0);
        due(x, 1, 70002, 0);
        due(x, 1, 70100, 0);
        due(x, 1, 71000, 0);
        due(x, 2, 7000070000L, 1);
    }

    private static void comparesOwed() {
        AshlarLodge x = Check.lodge("L3m912m912m912m912m912m912");
        due(x, 1, 80000, NONE);
        due(x, 1, 80001, 0);
        for (int day = 0; day < 92; day++) {
            x.nextDay(true);
        }
        due(x, 1, 89936, NONE);
        due(x, 1, 89937, 0);
        x.nextDay(true);
        due(x, 1, 89999, NONE);
        due(x, 1, 88888, NONE);
    }

    private static void refusesOtherGroups() {
        AshlarLodge x = Check.lodge("L3c612m512s000");
        for (int group = 0; group < 10000; group += 1111) {
            due(x, 1, group, 0);
        }
        due(x, 1, 9, 0);
        due(new AshlarLodge(), 1, 90000, 0);
        due(new AshlarLodge(), 1, 10000, 0);
        due(new AshlarLodge(), 1, 20000, 0);
        due(new AshlarLodge(), 1, 40000, 0);
    }
}
