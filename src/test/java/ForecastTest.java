/** Promises 23 to 29: what would be. */
public final class ForecastTest {
    public static void main(String[] args) {
        recutFor();
        cheapest();
        costLeft();
        daysLeft();
        daysLeftAtTheLimit();
        canSet();
        wouldEarn();
        worstMark();
        Check.end("ForecastTest");
    }

    private static void recutFor() {
        AshlarLodge x = Check.lodge("L3c711c611c911c511c611m912s029s009s039s010s049s020");
        Check.asks(x, "of a stone that is cut", AshlarLodge.NONE, () -> x.recutFor(0));
        for (int s = 0; s < 6; s++) {
            x.inspect(s);
        }
        Check.asks(x, "the greatest of the smaller", 0, () -> x.recutFor(0));
        Check.same("not its own; course 1 has its stone", x.recutFor(1), 4);
        Check.same("none is smaller", x.recutFor(2), AshlarLodge.NONE);
        Check.same("of an accepted one", x.recutFor(3), AshlarLodge.NONE);
        Check.same("a course as large does not count", x.recutFor(4), 3);
        x.undo();
        x.undo();
        x.undo();
        Check.same("of two as large the lower one", x.recutFor(1), 1);
        x.undo();
        x.scrap(1);
        Check.same("of a scrapped one", x.recutFor(1), AshlarLodge.NONE);
        Check.fails("recutFor(6)", Check.INDEX, () -> x.recutFor(6));
        Check.fails("recutFor(-1)", Check.INDEX, () -> x.recutFor(-1));
        AshlarLodge none = Check.lodge("L3c711c511m912s009s010");
        none.inspect(0);
        none.inspect(1);
        Check.same("no smaller one lacks", none.recutFor(0), AshlarLodge.NONE);
        none.addCourse(4, 6, 1);
        none.nextDay(true);
        Check.same("also if no mason has work for it", none.recutFor(0), 2);
    }

    private static void cheapest() {
        AshlarLodge x = Check.lodge("L3c961c951m512m303m304m405m306");
        Check.asks(x, "who has work for 6 faces", 4, () -> x.cheapest(0));
        Check.same("who has work for 5 faces", x.cheapest(1), 4);
        x.addCourse(1, 4, 1);
        Check.same("the lowest of the cheapest", x.cheapest(2), 2);
        x.addCourse(1, 3, 1);
        Check.same("just as much work", x.cheapest(3), 1);
        x.cut(4, 3, 0);
        Check.same("not the strength, the work that is left", x.cheapest(0), 0);
        x.setRate(0, 4);
        Check.same("another rate", x.cheapest(1), 0);
        x.addMason(1, 12);
        Check.same("a new mason has no work", x.cheapest(1), 0);
        x.nextDay(true);
        Check.same("frost", x.cheapest(3), AshlarLodge.NONE);
        Check.fails("cheapest(4)", Check.INDEX, () -> x.cheapest(4));
        Check.fails("cheapest(-1)", Check.INDEX, () -> x.cheapest(-1));
        Check.same("no mason", Check.lodge("L3c111").cheapest(0), AshlarLodge.NONE);
    }

    private static void costLeft() {
        AshlarLodge x = new AshlarLodge();
        Check.asks(x, "of nothing", 0, x::costLeft);
        x.addMason(7, 1);
        Check.same("no courses", x.costLeft(), 0);
        x.undo();
        x.addCourse(5, 4, 3);
        Check.asks(x, "no mason", AshlarLodge.NONE, x::costLeft);
        Check.same("no mason for one face", Check.lodge("L3c111").costLeft(), AshlarLodge.NONE);
        x.addMason(7, 1);
        Check.same("one mason", x.costLeft(), 84);
        x.addMason(2, 1);
        Check.same("the smallest rate", x.costLeft(), 24);
        x.addCourse(3, 6, 9);
        Check.same("two courses", x.costLeft(), 24 + 108);
        AshlarLodge y = Check.lodge("L3c642m512s000s000s009s000");
        Check.same("stones that are cut do not count", y.costLeft(), 40);
        y.inspect(2);
        Check.same("nor rejected ones", y.costLeft(), 40);
        y.inspect(0);
        Check.same("accepted ones do", y.costLeft(), 20);
        y.set(0);
        Check.same("and set ones", y.costLeft(), 20);
        y.inspect(1);
        Check.same("none lacks", y.costLeft(), 0);
        y.inspect(3);
        Check.same("nor less than none", y.costLeft(), 0);
    }

    private static void daysLeft() {
        Check.asks(new AshlarLodge(), "of nothing", 0, new AshlarLodge()::daysLeft);
        Check.same("no mason", Check.lodge("L3c111").daysLeft(), AshlarLodge.NONE);
        Check.same("too weak", Check.lodge("L3c161m905").daysLeft(), AshlarLodge.NONE);
        Check.same("on this day", Check.lodge("L3c162m912").daysLeft(), 1);
        Check.same("on the next one", Check.lodge("L3c163m912").daysLeft(), 2);
        Check.same("frost now", Check.lodge("L3fc162m912").daysLeft(), 2);
        AshlarLodge x = Check.lodge("L3c162m912s000s009");
        Check.asks(x, "cut stones do not count", 1, x::daysLeft);
        x.cut(0, 0, 0);
        Check.same("the work that is left", x.daysLeft(), 2);
        x.inspect(0);
        Check.same("accepted ones count", x.daysLeft(), 1);
        x.set(0);
        Check.same("and set ones", x.daysLeft(), 1);
        x.inspect(1);
        x.cut(0, 0, 0);
        Check.same("rejected ones do not", x.daysLeft(), 2);
        x.inspect(2);
        Check.same("none lacks", x.daysLeft(), 0);
        Check.same("the rest of a day is lost", Check.lodge("L3c149m906").daysLeft(), 9);
        Check.same("lowest course first, then what fits", Check.lodge("L3c142c122m906").daysLeft(), 2);
        Check.same("a higher one is worked at meanwhile", Check.lodge("L3c161c114m904m906").daysLeft(), 1);
        Check.same("ascending masons", Check.lodge("L3c131c161m903m906").daysLeft(), 1);
        Check.same("the first one takes what the second could", Check.lodge("L3c131c161m906m903").daysLeft(), 2);
        Check.same("one mason cannot do it", Check.lodge("L3c161c112m905").daysLeft(), AshlarLodge.NONE);
        AshlarLodge full = Check.lodge("L3c119c119c119m112m112");
        for (int s = 0; s < 24; s++) {
            full.cut(s / 12, 0, 9);
        }
        Check.same("more stones than there may be", full.daysLeft(), 3);
    }

    /** 54 stones at one a day are the most, so 99 days are enough wherever any number is. */
    private static void daysLeftAtTheLimit() {
        AshlarLodge x = Check.lodge("L3c169c169c169c169c169c169m906");
        Check.same("one stone a day", x.daysLeft(), 54);
        x.nextDay(true);
        Check.same("none on this day", x.daysLeft(), 55);
        AshlarLodge y = Check.lodge("L3c169c169c169c169c169c169m905");
        y.addMason(1, 12);
        Check.same("a new mason begins tomorrow", y.daysLeft(), 28);
    }

    private static void canSet() {
        AshlarLodge x = Check.lodge("L3c112c111c111m101s000s000s000s010s010s020s020s009");
        Check.asks(x, "none is accepted", 0, x::canSet);
        x.inspect(3);
        Check.same("above an open course", x.canSet(), 0);
        x.inspect(0);
        Check.same("the course stays open", x.canSet(), 1);
        x.inspect(5);
        x.inspect(1);
        Check.asks(x, "one behind the other", 4, x::canSet);
        x.inspect(2);
        x.inspect(4);
        x.inspect(6);
        x.inspect(7);
        Check.same("no more than needed", x.canSet(), 4);
        x.set(0);
        Check.same("behind one", x.canSet(), 3);
        x.nextDay(true);
        Check.same("frost", x.canSet(), 0);
        x.nextDay(false);
        x.set(2);
        Check.same("behind two", x.canSet(), 2);
        x.set(4);
        x.set(5);
        Check.same("all is set", x.canSet(), 0);
    }

    private static void wouldEarn() {
        AshlarLodge x = Check.lodge("L3c931c821c711m512m201s003s114s020s009s003");
        Check.fails("wouldEarn(-1)", Check.ARGUMENT, () -> x.wouldEarn(-1));
        Check.fails("wouldEarn(10)", Check.ARGUMENT, () -> x.wouldEarn(10));
        Check.asks(x, "wouldEarn(0)", 5, () -> x.wouldEarn(0));
        Check.same("wouldEarn(2)", x.wouldEarn(2), 5);
        Check.same("wouldEarn(3)", x.wouldEarn(3), 35);
        Check.same("wouldEarn(4)", x.wouldEarn(4), 39);
        Check.same("wouldEarn(9)", x.wouldEarn(9), 54);
        x.inspect(0);
        Check.same("an accepted one earns no more", x.wouldEarn(9), 39);
        x.inspect(3);
        Check.same("nor a rejected one", x.wouldEarn(9), 24);
        x.recut(0, 3, 2);
        Check.same("a recut one earns half", x.wouldEarn(9), 26);
        Check.same("with its lesser fault", x.wouldEarn(6) + 100 * x.wouldEarn(7), 24 + 2600);
        Check.same("nothing", new AshlarLodge().wouldEarn(9), 0);
    }

    private static void worstMark() {
        Check.same("no mason", new AshlarLodge().worstMark(), AshlarLodge.NONE);
        AshlarLodge x = Check.lodge("L3c911c811m512m512m512s000s109s208s109s207s019");
        Check.asks(x, "no such stone", AshlarLodge.NONE, x::worstMark);
        x.inspect(0);
        Check.same("an accepted one is none", x.worstMark(), AshlarLodge.NONE);
        x.inspect(2);
        Check.asks(x, "one", 2, x::worstMark);
        x.inspect(1);
        Check.same("the lowest of two", x.worstMark(), 1);
        x.inspect(4);
        Check.same("the most", x.worstMark(), 2);
        x.scrap(1);
        x.inspect(3);
        Check.same("scrapped ones count", x.worstMark(), 1);
        x.inspect(5);
        x.recut(0, 3, 1);
        Check.same("a recut one has another mark", x.worstMark(), 2);
        x.setBound(0);
        x.inspect(3);
        Check.same("for which that mason stands", x.worstMark(), 0);
    }
}
