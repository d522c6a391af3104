/** The calls that README.md shows answer what it says. */
public final class ReadmeTest {
    private static final int NONE = AshlarLodge.NONE;

    public static void main(String[] args) {
        checkLodgeFilledByCalls();
        checkLodgeToldByText();
        Check.end("ReadmeTest");
    }

    private static void checkLodgeFilledByCalls() {
        AshlarLodge lodge = new AshlarLodge();
        int course = lodge.addCourse(6, 4, 2);
        int mason = lodge.addMason(5, 12);
        Check.same("work left to a new mason", lodge.mason(mason, 2), 0);
        lodge.nextDay(false);
        int stone = lodge.cut(mason, course, 2);
        Check.same("inspect", lodge.inspect(stone), 20);
        Check.same("set", lodge.set(stone), 1);
        lodge.undo();
        Check.same("state of the stone behind undo", lodge.stone(stone, 3), 1);
        Check.same("pay", lodge.pay(), 20);
    }

    private static void checkLodgeToldByText() {
        AshlarLodge lodge = new AshlarLodge();
        for (char c : "L3c642m512s002".toCharArray()) {
            lodge.append(c);
        }
        Check.same("errorPosition", lodge.errorPosition(), NONE);
        Check.same("load", lodge.load(), 1);
        Check.same("costLeft", lodge.costLeft(), 40);
        Check.same("daysLeft", lodge.daysLeft(), 1);
        Check.same("wouldEarn", lodge.wouldEarn(1), 0);
        Check.same("runScript", lodge.runScript(3, 20000_40000_90001L), NONE);
        lodge.simulate(42, 99);
        Check.same("stones set behind what was tried", lodge.about(7), 0);
    }
}
