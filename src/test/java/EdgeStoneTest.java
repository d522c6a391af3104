/** Promises 15 to 19: a test for each sentence that names a boundary, quoted above it. */
public final class EdgeStoneTest {
    private static final int NONE = AshlarLodge.NONE;
    private static final int[] FAR = {-1, Integer.MIN_VALUE, Integer.MAX_VALUE};

    public static void main(String[] args) {
        cutsFaults0To9();
        cutNeedsAMason();
        cutNeedsACourse();
        cutNeedsAsMuchWorkAsFaces();
        cutNeedsRoomFor24Stones();
        cutThrowsTheFirstException();
        cutsAnewBehindUndo();
        inspectNeedsAStone();
        inspectNeedsTheState0();
        acceptsAFaultAtTheBound();
        owesFacesTimesRate();
        owesHalfForARecutStone();
        recutNeedsAMason();
        recutNeedsAStone();
        recutNeedsACourse();
        recutNeedsTheState2();
        recutNeedsASmallerTemplate();
        recutNeedsHalfTheWork();
        recutThrowsTheFirstException();
        faultsBecomeLessByTheDifference();
        recutNeedsNoRoom();
        scrapNeedsAStone();
        scrapNeedsTheState2();
        scrapsAll();
        setNeedsAStone();
        setNeedsThatItCan();
        setsAsManyAsAreNeeded();
        Check.end("EdgeStoneTest");
    }

    /** "fault: 0 to 9"; "IllegalArgumentException if fault is out of range". */
    private static void cutsFaults0To9() {
        Twin.answers("cut(0, 0, 0)", 5, Twin::busy, x -> x.cut(0, 0, 0) + 10 * x.stone(5, 2));
        Twin.answers("cut(0, 0, 9)", 95, Twin::busy, x -> x.cut(0, 0, 9) + 10 * x.stone(5, 2));
        Twin.refuses("cut(0, 0, 10)", Check.ARGUMENT, Twin::busy, x -> x.cut(0, 0, 10));
        for (int far : FAR) {
            Twin.refuses("cut(0, 0, " + far + ")", Check.ARGUMENT, Twin::busy, x -> x.cut(0, 0, far));
        }
    }

    /** "IndexOutOfBoundsException if there is no such mason or course": the mason. */
    private static void cutNeedsAMason() {
        for (int far : FAR) {
            Twin.refuses("cut(" + far + ", 0, 0)", Check.INDEX, Twin::busy, x -> x.cut(far, 0, 0));
        }
        Twin.refuses("cut(2, 0, 0)", Check.INDEX, Twin::busy, x -> x.cut(2, 0, 0));
        Twin.refuses("cut(0, 0, 0) of none", Check.INDEX, () -> Check.lodge("L3c111"), x -> x.cut(0, 0, 0));
        Twin.answers("cut(1, 0, 0)", 5, Twin::busy, x -> x.cut(1, 0, 0));
    }

    /** The same sentence: the course. */
    private static void cutNeedsACourse() {
        for (int far : FAR) {
            Twin.refuses("cut(0, " + far + ", 0)", Check.INDEX, Twin::busy, x -> x.cut(0, far, 0));
        }
        Twin.refuses("cut(0, 2, 0)", Check.INDEX, Twin::busy, x -> x.cut(0, 2, 0));
        Twin.refuses("cut(0, 0, 0) of none", Check.INDEX, () -> Check.lodge("L3m101"), x -> x.cut(0, 0, 0));
        Twin.answers("cut(0, 1, 0)", 5, Twin::busy, x -> x.cut(0, 1, 0));
    }

    private static AshlarLodge strong(int faces, int strength) {
        return Check.lodge("L3c1" + faces + "9m1" + strength / 10 + strength % 10);
    }

    /** "takes as much work as its template has faces"; "IllegalStateException if too little work is left". */
    private static void cutNeedsAsMuchWorkAsFaces() {
        for (int f = 1; f <= 6; f++) {
            int faces = f;
            Twin.answers("just as much", 0, () -> strong(faces, faces), x -> x.cut(0, 0, 0) + x.mason(0, 2));
            Twin.answers("one more", 1, () -> strong(faces, faces + 1), x -> x.cut(0, 0, 0) + x.mason(0, 2));
        }
        for (int f = 2; f <= 6; f++) {
            int faces = f;
            Twin.refuses("one less", Check.STATE, () -> strong(faces, faces - 1), x -> x.cut(0, 0, 0));
        }
        AshlarLodge x = strong(6, 12);
        x.cut(0, 0, 0);
        x.cut(0, 0, 0);
        Check.fails("none is left", Check.STATE, () -> x.cut(0, 0, 0));
        Twin.refuses("frost", Check.STATE, Twin::frozen, y -> y.cut(0, 0, 0));
    }

    /** "There are at most 24 stones, numbered from 0"; "or there are 24 stones". */
    private static void cutNeedsRoomFor24Stones() {
        Twin.answers("the first stone", 0, () -> Twin.cut(0, 0), x -> x.cut(0, 0, 0));
        Twin.answers("the last stone", 23, () -> Twin.cut(23, 0), x -> x.cut(1, 0, 0));
        Twin.refuses("one more", Check.STATE, Twin::full, x -> x.cut(0, 0, 0));
        AshlarLodge x = Twin.full();
        x.inspect(0);
        x.set(0);
        Check.fails("one is set", Check.STATE, () -> x.cut(0, 0, 0));
        AshlarLodge y = Twin.cut(24, 9);
        y.nextDay(false);
        y.inspect(0);
        y.scrap(0);
        Check.fails("one is scrapped", Check.STATE, () -> y.cut(0, 0, 0));
    }

    /** "If several exceptions apply to a call, the one that its description names first is thrown." */
    private static void cutThrowsTheFirstException() {
        Twin.refuses("no mason, wrong fault", Check.INDEX, Twin::busy, x -> x.cut(2, 0, 10));
        Twin.refuses("no course, wrong fault", Check.INDEX, Twin::busy, x -> x.cut(0, 2, 10));
        Twin.refuses("no mason, no room", Check.INDEX, Twin::full, x -> x.cut(2, 0, 0));
        Twin.refuses("no course, no work", Check.INDEX, Twin::frozen, x -> x.cut(0, 2, 0));
        Twin.refuses("wrong fault, no work", Check.ARGUMENT, Twin::frozen, x -> x.cut(0, 0, 10));
        Twin.refuses("wrong fault, no room", Check.ARGUMENT, Twin::full, x -> x.cut(0, 0, -1));
    }

    /** "the stone has the mark of this mason"; "0: it is cut": behind undo nothing is left of an earlier stone. */
    private static void cutsAnewBehindUndo() {
        AshlarLodge x = Check.lodge("L3c911c111m112m112");
        x.cut(1, 0, 9);
        x.inspect(0);
        x.recut(1, 0, 1);
        x.inspect(0);
        for (int left = 3; left >= 0; left--) {
            Check.same("undo", x.undo(), left);
        }
        x.cut(0, 1, 3);
        int[] due = {1, 0, 3, 0, 0, 0};
        for (int what = 0; what < due.length; what++) {
            Check.same("stone(0, " + what + ")", x.stone(0, what), due[what]);
        }
    }

    /** "IndexOutOfBoundsException if there is no such stone". */
    private static void inspectNeedsAStone() {
        for (int far : FAR) {
            Twin.refuses("inspect(" + far + ")", Check.INDEX, Twin::busy, x -> x.inspect(far));
        }
        Twin.refuses("inspect(5)", Check.INDEX, Twin::busy, x -> x.inspect(5));
        Twin.refuses("inspect(0) of none", Check.INDEX, AshlarLodge::new, x -> x.inspect(0));
        Twin.refuses("inspect(24) of 24", Check.INDEX, Twin::full, x -> x.inspect(24));
        Twin.answers("inspect(23) of 24", 1, Twin::full, x -> x.inspect(23));
    }

    /** "IllegalStateException if its state is not 0". */
    private static void inspectNeedsTheState0() {
        Twin.refuses("one that is set", Check.STATE, Twin::busy, x -> x.inspect(0));
        Twin.refuses("one that is rejected", Check.STATE, Twin::busy, x -> x.inspect(1));
        Twin.refuses("one that is scrapped", Check.STATE, Twin::busy, x -> x.inspect(2));
        Twin.answers("one that is cut", NONE, Twin::busy, x -> x.inspect(3));
        Twin.refuses("one that is accepted", Check.STATE, Twin::busy, x -> x.inspect(4));
    }

    /** "accepted if its fault is at most the bound, otherwise rejected"; "NONE if it is rejected". */
    private static void acceptsAFaultAtTheBound() {
        for (int b = 0; b <= 9; b++) {
            int bound = b;
            Twin.answers("at the bound " + b, 1, () -> Check.lodge("L" + bound + "c111m101s00" + bound),
                    x -> x.inspect(0) * x.stone(0, 3));
        }
        for (int b = 0; b < 9; b++) {
            int bound = b;
            Twin.answers("one above the bound " + b, NONE * 2,
                    () -> Check.lodge("L" + bound + "c111m101s00" + (bound + 1)), x -> x.inspect(0) * x.stone(0, 3));
        }
        Twin.answers("nothing is owed for a rejected one", 0, () -> Check.lodge("L0c111m901s001"),
                x -> x.inspect(0) - NONE + x.about(9));
    }

    /** "is owed (the faces of its template) * (the rate of this mason)": the least and the greatest. */
    private static void owesFacesTimesRate() {
        Twin.answers("the least", 11, () -> Check.lodge("L3c119m112s000"), x -> x.inspect(0) + 10 * x.mason(0, 3));
        Twin.answers("the greatest", 5454, () -> Check.lodge("L3c969m912s000"),
                x -> x.inspect(0) + 100 * x.mason(0, 3));
        Twin.answers("the rate of now", 6, () -> Check.lodge("L3c969m912s000"), x -> {
            x.setRate(0, 1);
            return x.inspect(0);
        });
    }

    private static int halfOwed(int faces, int rate) {
        AshlarLodge x = Check.lodge("L0c919c1" + faces + "9m" + rate + "12s001");
        x.inspect(0);
        x.recut(0, 0, 1);
        int pence = x.inspect(0);
        Check.same("what is owed", x.mason(0, 3), pence);
        Check.same("is accepted", x.stone(0, 3), 1);
        return pence;
    }

    /** "half of this, rounded down, for a stone that was recut". */
    private static void owesHalfForARecutStone() {
        Check.same("half of 1", halfOwed(1, 1), 0);
        Check.same("half of 2", halfOwed(2, 1), 1);
        Check.same("half of 3", halfOwed(3, 1), 1);
        Check.same("half of 45", halfOwed(5, 9), 22);
        Check.same("half of 54", halfOwed(6, 9), 27);
        AshlarLodge twice = Check.lodge("L0c919c869c769m912m912s009");
        for (int c = 1; c < 3; c++) {
            twice.inspect(0);
            twice.recut(1, 0, c);
        }
        twice.setBound(9);
        Check.same("half also if it was recut twice", twice.inspect(0), 27);
        Check.same("to the mason whose mark it has", twice.mason(0, 3) + 100 * twice.mason(1, 3), 2700);
    }

    /** "IndexOutOfBoundsException if there is no such mason, stone or course": the mason. */
    private static void recutNeedsAMason() {
        for (int far : FAR) {
            Twin.refuses("recut(" + far + ", 1, 1)", Check.INDEX, Twin::busy, x -> x.recut(far, 1, 1));
        }
        Twin.refuses("recut(2, 1, 1)", Check.INDEX, Twin::busy, x -> x.recut(2, 1, 1));
        Twin.answers("recut(1, 1, 1)", 6, Twin::busy, x -> x.recut(1, 1, 1));
    }

    /** The same sentence: the stone. */
    private static void recutNeedsAStone() {
        for (int far : FAR) {
            Twin.refuses("recut(0, " + far + ", 1)", Check.INDEX, Twin::busy, x -> x.recut(0, far, 1));
        }
        Twin.refuses("recut(0, 5, 1)", Check.INDEX, Twin::busy, x -> x.recut(0, 5, 1));
        Twin.refuses("recut(0, 0, 0) of none", Check.INDEX, () -> Check.lodge("L3c111m101"), x -> x.recut(0, 0, 0));
        Twin.refuses("recut(0, 24, 0) of 24", Check.INDEX, Twin::full, x -> x.recut(0, 24, 0));
    }

    /** The same sentence: the course. */
    private static void recutNeedsACourse() {
        for (int far : FAR) {
            Twin.refuses("recut(0, 1, " + far + ")", Check.INDEX, Twin::busy, x -> x.recut(0, 1, far));
        }
        Twin.refuses("recut(0, 1, 2)", Check.INDEX, Twin::busy, x -> x.recut(0, 1, 2));
        Twin.answers("recut(0, 1, 1)", 6, Twin::busy, x -> x.recut(0, 1, 1));
    }

    /** "IllegalStateException if the state of the stone is not 2". */
    private static void recutNeedsTheState2() {
        Twin.refuses("one that is set", Check.STATE, Twin::busy, x -> x.recut(0, 0, 1));
        Twin.answers("one that is rejected", 6, Twin::busy, x -> x.recut(0, 1, 1));
        Twin.refuses("one that is scrapped", Check.STATE, () -> smallerFor(2), x -> x.recut(0, 2, 2));
        Twin.refuses("one that is cut", Check.STATE, Twin::busy, x -> x.recut(0, 3, 1));
        Twin.refuses("one that is accepted", Check.STATE, Twin::busy, x -> x.recut(0, 4, 1));
        Twin.refuses("one that was just recut", Check.STATE, () -> smallerFor(1), x -> x.recut(0, 1, 2));
    }

    /** The busy lodge with a third, smaller course; the stone 1 is recut already if it is named. */
    private static AshlarLodge smallerFor(int stone) {
        AshlarLodge x = Twin.busy();
        x.addCourse(1, 1, 1);
        if (stone == 1) {
            x.recut(0, 1, 1);
        }
        Twin.forget(x);
        return x;
    }

    private static AshlarLodge sized(int own, int other) {
        AshlarLodge x = Check.lodge("L0c" + own + "11c" + other + "11m112s009");
        x.inspect(0);
        return x;
    }

    /** "a course whose template is smaller (in size) than that of its own". */
    private static void recutNeedsASmallerTemplate() {
        Twin.answers("smaller by 1", 8, () -> sized(9, 8), x -> x.recut(0, 0, 1));
        Twin.answers("smaller by 1, the least", 8, () -> sized(2, 1), x -> x.recut(0, 0, 1));
        Twin.answers("smaller by 8", 1, () -> sized(9, 1), x -> x.recut(0, 0, 1));
        Twin.refuses("as large", Check.STATE, () -> sized(9, 9), x -> x.recut(0, 0, 1));
        Twin.refuses("as small", Check.STATE, () -> sized(1, 1), x -> x.recut(0, 0, 1));
        Twin.refuses("larger by 1", Check.STATE, () -> sized(8, 9), x -> x.recut(0, 0, 1));
        Twin.refuses("its own", Check.STATE, () -> sized(9, 1), x -> x.recut(0, 0, 0));
    }

    private static AshlarLodge halfWork(int faces, int strength) {
        AshlarLodge x = Check.lodge("L0c961c8" + faces + "1m10" + strength + "s009");
        x.inspect(0);
        return x;
    }

    /** "half as much work as the template of that other course has faces, rounded up"; "too little work is left". */
    private static void recutNeedsHalfTheWork() {
        int[] half = {1, 1, 2, 2, 3, 3};
        for (int f = 1; f <= 6; f++) {
            int faces = f;
            int work = half[f - 1];
            Twin.answers("just as much for " + f, 8, () -> halfWork(faces, work),
                    x -> x.recut(0, 0, 1) + 100 * x.mason(0, 2));
            Twin.answers("one more for " + f, 108, () -> halfWork(faces, work + 1),
                    x -> x.recut(0, 0, 1) + 100 * x.mason(0, 2));
            if (work > 1) {
                Twin.refuses("one less for " + f, Check.STATE, () -> halfWork(faces, work - 1), x -> x.recut(0, 0, 1));
            }
        }
        Twin.refuses("no work, one face", Check.STATE, () -> worn(), x -> x.recut(0, 0, 1));
        Twin.refuses("frost", Check.STATE, Twin::frozen, x -> x.recut(0, 1, 1));
    }

    private static AshlarLodge worn() {
        AshlarLodge x = Check.lodge("L0c911c811m101s009");
        x.inspect(0);
        x.cut(0, 0, 0);
        return x;
    }

    /** "If several exceptions apply to a call, the one that its description names first is thrown." */
    private static void recutThrowsTheFirstException() {
        Twin.refuses("no mason, a set stone", Check.INDEX, Twin::busy, x -> x.recut(2, 0, 1));
        Twin.refuses("no course, a set stone", Check.INDEX, Twin::busy, x -> x.recut(0, 0, 2));
        Twin.refuses("no stone, no work", Check.INDEX, Twin::frozen, x -> x.recut(0, 5, 1));
        Twin.refuses("no course, no work", Check.INDEX, Twin::frozen, x -> x.recut(0, 1, -1));
    }

    private static int recutFault(int size, int fault) {
        AshlarLodge x = Check.lodge("L0c911c" + size + "11m101s00" + fault);
        x.inspect(0);
        int then = x.recut(0, 0, 1);
        Check.same("the fault of the stone", x.stone(0, 2), then);
        return then;
    }

    /** "its fault becomes less by the difference of the sizes .. (but not below 0)". "Returns its fault then." */
    private static void faultsBecomeLessByTheDifference() {
        Check.same("9 less by 3", recutFault(6, 9), 6);
        Check.same("4 less by 3", recutFault(6, 4), 1);
        Check.same("3 less by 3", recutFault(6, 3), 0);
        Check.same("2 less by 3", recutFault(6, 2), 0);
        Check.same("1 less by 8", recutFault(1, 1), 0);
        Check.same("9 less by 8", recutFault(1, 9), 1);
        Check.same("1 less by 1", recutFault(8, 1), 0);
        AshlarLodge x = Check.lodge("L0c911c811c511m112s009");
        x.inspect(0);
        Check.same("less by 1", x.recut(0, 0, 1), 8);
        x.inspect(0);
        Check.same("of the course of which it just was", x.recut(0, 0, 2), 5);
    }

    /** "There are at most 24 stones": to recut one of them adds none. */
    private static void recutNeedsNoRoom() {
        AshlarLodge x = Check.lodge("L3c911c811m112m112");
        for (int s = 0; s < 24; s++) {
            x.cut(s / 12, 0, 9);
        }
        x.nextDay(false);
        x.inspect(23);
        Check.same("recut(0, 23, 1)", x.recut(0, 23, 1), 8);
        Check.same("stones", x.about(2), 24);
    }

    /** "IndexOutOfBoundsException if there is no such stone". */
    private static void scrapNeedsAStone() {
        for (int far : FAR) {
            Twin.refuses("scrap(" + far + ")", Check.INDEX, Twin::busy, x -> x.scrap(far));
        }
        Twin.refuses("scrap(5)", Check.INDEX, Twin::busy, x -> x.scrap(5));
        Twin.refuses("scrap(0) of none", Check.INDEX, AshlarLodge::new, x -> x.scrap(0));
        Twin.refuses("scrap(24) of 24", Check.INDEX, Twin::full, x -> x.scrap(24));
    }

    /** "IllegalStateException if its state is not 2". */
    private static void scrapNeedsTheState2() {
        Twin.refuses("one that is set", Check.STATE, Twin::busy, x -> x.scrap(0));
        Twin.answers("one that is rejected", 2, Twin::busy, x -> x.scrap(1));
        Twin.answers("also with frost", 2, Twin::frozen, x -> x.scrap(1));
        Twin.refuses("one that is scrapped", Check.STATE, Twin::busy, x -> x.scrap(2));
        Twin.refuses("one that is cut", Check.STATE, Twin::busy, x -> x.scrap(3));
        Twin.refuses("one that is accepted", Check.STATE, Twin::busy, x -> x.scrap(4));
    }

    /** "Returns the number of scrapped stones then": 1 to 24. */
    private static void scrapsAll() {
        AshlarLodge x = Twin.cut(24, 9);
        for (int s = 23; s >= 0; s--) {
            x.inspect(s);
            Check.same("scrap(" + s + ")", x.scrap(s), 24 - s);
            Check.same("its state", x.stone(s, 3), 4);
        }
    }

    /** "IndexOutOfBoundsException if there is no such stone". */
    private static void setNeedsAStone() {
        for (int far : FAR) {
            Twin.refuses("set(" + far + ")", Check.INDEX, Twin::busy, x -> x.set(far));
        }
        Twin.refuses("set(5)", Check.INDEX, Twin::busy, x -> x.set(5));
        Twin.refuses("set(0) of none", Check.INDEX, AshlarLodge::new, x -> x.set(0));
        Twin.refuses("set(24) of 24", Check.INDEX, Twin::full, x -> x.set(24));
    }

    /** The stones 0 and 1 are of the course 0, which needs one, 2 is of the course 1; all are accepted. */
    private static AshlarLodge accepted(int set) {
        AshlarLodge x = Check.lodge("L3c111c111m101s000s000s010");
        for (int s = 0; s < 3; s++) {
            x.inspect(s);
        }
        for (int s = 0; s < set; s++) {
            x.set(s);
        }
        Twin.forget(x);
        return x;
    }

    /** "IllegalStateException if it cannot be set": for each of the reasons, and for none. */
    private static void setNeedsThatItCan() {
        for (int s = 0; s < 4; s++) {
            int stone = s;
            Twin.refuses("one that is set, rejected, scrapped, cut", Check.STATE, Twin::busy, x -> x.set(stone));
        }
        Twin.answers("one that is accepted", 2, Twin::busy, x -> x.set(4));
        Twin.refuses("frost", Check.STATE, Twin::frozen, x -> x.set(4));
        Twin.refuses("an open course below", Check.STATE, () -> accepted(0), x -> x.set(2));
        Twin.answers("no open course below", 1, () -> accepted(1), x -> x.set(2));
        Twin.refuses("its course is complete", Check.STATE, () -> accepted(1), x -> x.set(1));
    }

    /** "a course needs from 1 to 9 stones": "Returns the number of stones that are set in its course then." */
    private static void setsAsManyAsAreNeeded() {
        AshlarLodge x = Check.lodge("L3c119m112");
        for (int s = 0; s < 10; s++) {
            x.cut(0, 0, 0);
            x.inspect(s);
        }
        for (int s = 9; s > 0; s--) {
            Check.same("not complete yet", x.about(6), 0);
            Check.same("set(" + s + ")", x.set(s), 10 - s);
        }
        Check.same("complete", x.about(6), 1);
        Check.fails("one more", Check.STATE, () -> x.set(0));
    }
}
