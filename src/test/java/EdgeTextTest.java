/** Promises 2 to 5 and the terms of the text: a test for each sentence that names a boundary, quoted above it. */
public final class EdgeTextTest {
    private static final int NONE = AshlarLodge.NONE;
    private static final String DIGITS = "0123456789";
    private static final String FROM_1 = "123456789";
    private static final String SIX_COURSES = "c111c111c111c111c111c111";
    private static final String SIX_MASONS = "m101m101m101m101m101m101";

    public static void main(String[] args) {
        appendsCodes();
        tellsTheNewLength();
        hasRoomFor80();
        refusesTheCodeFirst();
        tellsThePreviousLength();
        hasRoomBehindClearText();
        beginsWithL();
        hasABound();
        hasAnyNumberOfParts();
        hasPartsInAnyOrder();
        readsCourses();
        loadsTheLeastAndTheGreatestCourse();
        hasAtMostSixCourses();
        readsMasons();
        loadsTheLeastAndTheGreatestMason();
        hasAtMostSixMasons();
        needsAMasonAndACourseAheadOfAStone();
        readsMasonsOfStones();
        readsCoursesOfStones();
        loadsStonesOfTheLastOnes();
        readsFaultsOfStones();
        hasAsManyStonesAs80CharactersHold();
        hasFrostAtMostOnce();
        hasNoBlanks();
        endsTooSoon();
        tellsTheFirstError();
        refusesDigitsOfNoNumber();
        errorPositionChangesNothing();
        loadsAsInANewObject();
        leavesNothingBehindLoad();
        loadsStonesWithoutWork();
        loadsFrostWhereverItStands();
        loadForgetsAllStates();
        loadEmptiesBothSlots();
        loadKeepsTheText();
        refusesToLoadWhatIsNoLodge();
        Check.end("EdgeTextTest");
    }

    /** Says of each of the 256 characters whether it is allowed there, and whether the text is a lodge with it. */
    private static void allows(String ahead, String unfinished, String finished) {
        for (int c = 0; c <= 255; c++) {
            int due = finished.indexOf(c) >= 0 ? NONE : ahead.length() + (unfinished.indexOf(c) >= 0 ? 1 : 0);
            errorAt(ahead + (char) c, due);
        }
    }

    private static void errorAt(String text, int due) {
        Twin.answers("errorPosition of " + text, due, () -> written(text), AshlarLodge::errorPosition);
    }

    private static AshlarLodge written(String text) {
        AshlarLodge x = new AshlarLodge();
        Check.write(x, text);
        return x;
    }

    /** A lodge of 78 characters with as many stones as they hold. */
    private static String longest() {
        return "L3c111m101" + "s000".repeat(17);
    }

    /** "c: character code, 0 to 255"; "IllegalArgumentException if c is out of range". */
    private static void appendsCodes() {
        for (int c : new int[] {-1, 256, Integer.MIN_VALUE, Integer.MAX_VALUE, 65536 + 'L', 256 + 'L'}) {
            Twin.refuses("append(" + c + ")", Check.ARGUMENT, Twin::busy, x -> x.append(c));
            Twin.refuses("append(" + c + ") to no text", Check.ARGUMENT, AshlarLodge::new, x -> x.append(c));
        }
        for (int c : new int[] {0, 1, 127, 128, 254, 255}) {
            Twin.answers("append(" + c + ")", 1, AshlarLodge::new, x -> x.append(c));
        }
    }

    /** "Returns the new length of the text." */
    private static void tellsTheNewLength() {
        AshlarLodge x = new AshlarLodge();
        for (int length = 1; length <= 80; length++) {
            Check.same("append of the character " + length, x.append(255), length);
        }
    }

    /** "a text buffer of at most 80 characters"; "IllegalStateException if the text already has 80 characters". */
    private static void hasRoomFor80() {
        Twin.answers("append behind 79", 80, () -> written(longest() + "f"), x -> x.append('x'));
        Twin.refuses("append behind 80", Check.STATE, () -> written(longest() + "fx"), x -> x.append('x'));
        Twin.refuses("append of what is there", Check.STATE, () -> written(longest() + "s0"), x -> x.append('0'));
    }

    /** "If several exceptions apply to a call, the one that its description names first is thrown." */
    private static void refusesTheCodeFirst() {
        Twin.refuses("append(256) behind 80", Check.ARGUMENT, () -> written(longest() + "fx"), x -> x.append(256));
        Twin.refuses("append(-1) behind 80", Check.ARGUMENT, () -> written(longest() + "fx"), x -> x.append(-1));
    }

    /** "Empties the text buffer. Returns the previous length of the text." */
    private static void tellsThePreviousLength() {
        Twin.keeps("clearText of none", 0, AshlarLodge::new, AshlarLodge::clearText);
        for (int length : new int[] {1, 79, 80}) {
            AshlarLodge x = written("L".repeat(length));
            Check.same("clearText of " + length, x.clearText(), length);
            Check.same("errorPosition of no text", x.errorPosition(), 0);
            Check.same("clearText again", x.clearText(), 0);
        }
    }

    /** "at most 80 characters": the ones that were cleared do not count, and none of them is left. */
    private static void hasRoomBehindClearText() {
        AshlarLodge x = written(longest() + "fx");
        x.clearText();
        Check.same("append", x.append('L'), 1);
        Check.same("errorPosition", x.errorPosition(), 1);
        for (int length = 2; length <= 80; length++) {
            Check.same("append anew", x.append('3'), length);
        }
        Check.fails("append behind 80", Check.STATE, () -> x.append('3'));
        Check.same("errorPosition of L33", x.errorPosition(), 2);
    }

    /** "A lodge is the letter L, .."; of no text the error position "is the length of the text". */
    private static void beginsWithL() {
        errorAt("", 0);
        allows("", "L", "");
    }

    /** "the digit of the bound": it is 0 to 9. */
    private static void hasABound() {
        allows("L", "", DIGITS);
        for (int bound = 0; bound <= 9; bound++) {
            Check.same("the bound", Check.lodge("L" + bound).about(5), bound);
        }
    }

    /** "and then any number of parts (also none)". */
    private static void hasAnyNumberOfParts() {
        errorAt("L0", NONE);
        allows("L0", "cm", "f");
        errorAt(longest(), NONE);
        errorAt(longest() + "f", NONE);
        Check.same("load without parts", Check.lodge("L9").about(0), 0);
    }

    /** "in any order". */
    private static void hasPartsInAnyOrder() {
        errorAt("L3fm101c111s000m101c111s110", NONE);
        errorAt("L3c111m101s000fs000c111s010m101s100", NONE);
        allows("L3c111m101s000", "cms", "f");
        allows("L3c111m101fs000", "cms", "");
    }

    /** "the letter c and the digits of the size (1 to 9), the faces (1 to 6) and the number of stones (1 to 9)". */
    private static void readsCourses() {
        allows("L3c", FROM_1, "");
        allows("L3c1", "123456", "");
        allows("L3c9", "123456", "");
        allows("L3c11", "", FROM_1);
        allows("L3c96", "", FROM_1);
        allows("L3c969", "cm", "f");
    }

    /** The same sentence: what the least and the greatest digits become. */
    private static void loadsTheLeastAndTheGreatestCourse() {
        AshlarLodge x = Check.lodge("L3c111c969");
        Check.same("courses", Check.tell(x), "[2, 0, 0, 0, 0, 3, 0, 0, 0, 0, 0, 0,"
                + " 1, 1, 1, 0, 1, 0, 0, 9, 6, 9, 0, 9, 0, 0]");
    }

    /** "at most 6 of them"; "no letter is allowed behind the last one of its kind". */
    private static void hasAtMostSixCourses() {
        allows("L3c111c111c111c111c111", "cm", "f");
        allows("L3" + SIX_COURSES, "m", "f");
        allows("L3" + SIX_COURSES + "m101", "ms", "f");
        allows("L3" + SIX_COURSES + "f", "m", "");
        Check.same("six courses", Check.lodge("L3" + SIX_COURSES).about(0), 6);
    }

    /** "the letter m, the digit of the rate (1 to 9) of a mason and two digits for the strength (01 to 12)". */
    private static void readsMasons() {
        allows("L3m", FROM_1, "");
        allows("L3m1", "01", "");
        allows("L3m9", "01", "");
        allows("L3m90", "", FROM_1);
        allows("L3m91", "", "012");
        allows("L3m912", "cm", "f");
    }

    /** The same sentence: what the least and the greatest digits become. */
    private static void loadsTheLeastAndTheGreatestMason() {
        AshlarLodge x = Check.lodge("L3m101m912m909m110");
        Check.same("masons", Check.tell(x), "[0, 4, 0, 0, 0, 3, 0, 0, 0, 0, 0, 0,"
                + " 1, 1, 1, 0, 0, 0, 9, 12, 12, 0, 0, 0, 9, 9, 9, 0, 0, 0, 1, 10, 10, 0, 0, 0]");
    }

    /** "at most 6 of them"; "no letter is allowed behind the last one of its kind". */
    private static void hasAtMostSixMasons() {
        allows("L3m101m101m101m101m101", "cm", "f");
        allows("L3" + SIX_MASONS, "c", "f");
        allows("L3" + SIX_MASONS + "c111", "cs", "f");
        allows("L3" + SIX_MASONS + SIX_COURSES, "s", "f");
        allows("L3" + SIX_MASONS + SIX_COURSES + "f", "s", "");
        Check.same("six masons", Check.lodge("L3" + SIX_MASONS).about(1), 6);
    }

    /** "an s is not allowed if no mason or no course is told ahead of it". */
    private static void needsAMasonAndACourseAheadOfAStone() {
        errorAt("L3s000", 2);
        errorAt("L3s000m101c111", 2);
        errorAt("L3m101s000c111", 6);
        errorAt("L3c111s000m101", 6);
        errorAt("L3" + SIX_MASONS + "s", 26);
        errorAt("L3" + SIX_COURSES + "s", 26);
        errorAt("L3m101c111s000", NONE);
        errorAt("L3c111m101s000", NONE);
    }

    /** "the letter s and the digits of a mason .. told ahead of it": 0 to one less than there are. */
    private static void readsMasonsOfStones() {
        for (int masons = 1; masons <= 6; masons++) {
            allows("L3c111" + "m101".repeat(masons) + "s", DIGITS.substring(0, masons), "");
        }
        errorAt("L3c111m101s100m101", 11);
        errorAt("L3c111m101s000m101s100", NONE);
    }

    /** "and of a course that were told ahead of it": 0 to one less than there are. */
    private static void readsCoursesOfStones() {
        for (int courses = 1; courses <= 6; courses++) {
            allows("L3m101" + "c111".repeat(courses) + "s0", DIGITS.substring(0, courses), "");
        }
        errorAt("L3c111m101s010c111", 12);
        errorAt("L3c111m101s000c111s010", NONE);
    }

    /** The same sentence: of the mason and the course that are told. */
    private static void loadsStonesOfTheLastOnes() {
        AshlarLodge x = Check.lodge("L3" + SIX_COURSES + SIX_MASONS + "s500s050");
        Check.same("the last mason", x.stone(0, 1) + 10 * x.stone(0, 5) + 100 * x.stone(0, 0), 55);
        Check.same("the last course", x.stone(1, 1) + 10 * x.stone(1, 5) + 100 * x.stone(1, 0), 500);
    }

    /** "and of a fault": it is 0 to 9. */
    private static void readsFaultsOfStones() {
        allows("L3c111m101s00", "", DIGITS);
        AshlarLodge x = Check.lodge("L3c111m101s000s009");
        Check.same("the least and the greatest", x.stone(0, 2) + 10 * x.stone(1, 2), 90);
    }

    /** "a text buffer of at most 80 characters": it ends before 24 stones are told. */
    private static void hasAsManyStonesAs80CharactersHold() {
        AshlarLodge x = written(longest());
        Check.same("length", x.append('f'), 79);
        Check.same("errorPosition", x.errorPosition(), NONE);
        Check.same("load", x.load(), 17);
        Check.same("the last stone", x.stone(16, 2), 0);
        Check.fails("one more", Check.INDEX, () -> x.stone(17, 2));
        allows(longest(), "cms", "f");
    }

    /** "the letter f: .. at most once"; "no letter is allowed behind the last one of its kind". */
    private static void hasFrostAtMostOnce() {
        allows("L3", "cm", "f");
        allows("L3f", "cm", "");
        errorAt("L3ff", 3);
        errorAt("L3fc111f", 7);
        errorAt("L3fc111m101s000f", 15);
    }

    /** "There are no blanks." */
    private static void hasNoBlanks() {
        String lodge = "L3c111m101s000f";
        for (int i = 0; i <= lodge.length(); i++) {
            errorAt(lodge.substring(0, i) + " " + lodge.substring(i), i);
        }
    }

    /** "if the text ends too soon, it is the length of the text". */
    private static void endsTooSoon() {
        String lodge = "L3c111m101s000f";
        for (int i = 0; i <= lodge.length(); i++) {
            boolean isWhole = i == 2 || i == 6 || i == 10 || i == 14 || i == 15;
            errorAt(lodge.substring(0, i), isWhole ? NONE : i);
        }
        errorAt(longest() + "fs", 80);
        errorAt(longest() + "s0", 80);
    }

    /** "The error position is the index of the first character that these rules do not allow at its place". */
    private static void tellsTheFirstError() {
        errorAt("l", 0);
        errorAt("xL3", 0);
        errorAt("Lx3x", 1);
        errorAt("L3c0m0", 3);
        errorAt("L3m100m113", 5);
        errorAt("L3xs", 2);
        errorAt(longest() + "ff", 79);
        errorAt("L3" + "x".repeat(78), 2);
    }

    /** "a digit is not allowed if no number that is allowed begins with it and those before it". */
    private static void refusesDigitsOfNoNumber() {
        errorAt("L3m12", 4);
        errorAt("L3m100", 5);
        errorAt("L3m113", 5);
        errorAt("L3m119", 5);
        errorAt("L3m10", 5);
        errorAt("L3m11", 5);
        errorAt("L3c0", 3);
        errorAt("L3c17", 4);
        errorAt("L3c110", 5);
    }

    /** "Checks the text": "A call that throws an exception changes nothing", and this one has nothing to change. */
    private static void errorPositionChangesNothing() {
        Twin.keeps("errorPosition of a lodge", NONE, Twin::busy, AshlarLodge::errorPosition);
        Twin.keeps("errorPosition of none", 39, () -> wrongText(), AshlarLodge::errorPosition);
    }

    /** "Makes everything as in a new object, and then as the text tells." "Returns the number of stones." */
    private static void loadsAsInANewObject() {
        AshlarLodge x = Twin.frozen();
        x.simulate(5, 99);
        x.clearText();
        Check.write(x, "L3");
        Check.same("load of no stones", x.load(), 0);
        Check.same("as a new object", Check.tell(x), Check.tell(new AshlarLodge()));
        Twin.answers("load of one stone", 1, () -> written("L3c111m101s000"), AshlarLodge::load);
        Twin.answers("load of 17 stones", 17, () -> written(longest()), AshlarLodge::load);
    }

    /** The same sentence: nothing is left of the masons and stones that were there, or that a script made. */
    private static void leavesNothingBehindLoad() {
        AshlarLodge x = Twin.busy();
        x.runScript(2, 50000_30101L);
        x.clearText();
        Check.write(x, "L3");
        x.load();
        x.addMason(1, 2);
        x.addCourse(5, 1, 1);
        Check.same("a mason without work and pence", x.mason(0, 2) + x.mason(0, 3), 0);
        x.nextDay(false);
        for (int s = 0; s < 2; s++) {
            x.cut(0, 0, 7);
            Check.same("a stone that is cut", x.stone(s, 3), 0);
            Check.same("and was not recut", x.stone(s, 4), 0);
        }
    }

    /** "a stone with the state 0, which takes no work". */
    private static void loadsStonesWithoutWork() {
        AshlarLodge x = Check.lodge("L3c161m101" + "s000".repeat(17));
        Check.same("the work that is left", x.mason(0, 2), 1);
        Check.same("stones that are cut", x.course(0, 5), 17);
    }

    /** "there is frost on the day 0 (nothing is owed for it)"; "none with it (wherever the f stands)". */
    private static void loadsFrostWhereverItStands() {
        String due = "[0, 2, 0, 0, 1, 3, 0, 0, 0, 0, 0, 0, 9, 12, 0, 0, 0, 0, 1, 1, 0, 0, 0, 0]";
        Check.same("ahead of the masons", Check.tell(Check.lodge("L3fm912m101")), due);
        Check.same("between them", Check.tell(Check.lodge("L3m912fm101")), due);
        Check.same("behind them", Check.tell(Check.lodge("L3m912m101f")), due);
        Check.same("without it", Check.tell(Check.lodge("L3m912m101")),
                "[0, 2, 0, 0, 0, 3, 0, 0, 0, 0, 0, 0, 9, 12, 12, 0, 0, 0, 1, 1, 1, 0, 0, 0]");
    }

    /** "Forgets all remembered states", also if 14 are remembered; "load and restore are not actions". */
    private static void loadForgetsAllStates() {
        for (int actions : new int[] {0, 1, 14, 15}) {
            AshlarLodge x = written("L3");
            for (int i = 0; i < actions; i++) {
                x.nextDay(true);
            }
            x.load();
            Check.fails("undo behind load and " + actions, Check.STATE, x::undo);
            x.nextDay(false);
            Check.same("undo of a new action", x.undo(), 0);
        }
    }

    /** "and empties both save slots". */
    private static void loadEmptiesBothSlots() {
        AshlarLodge x = written("L3");
        x.save(0);
        x.save(1);
        x.load();
        Check.fails("restore(0)", Check.STATE, () -> x.restore(0));
        Check.fails("restore(1)", Check.STATE, () -> x.restore(1));
        x.save(1);
        Check.same("restore(1) of what was saved anew", x.restore(1), 0);
        Check.fails("restore(0) still", Check.STATE, () -> x.restore(0));
    }

    /** "Keeps the text." */
    private static void loadKeepsTheText() {
        AshlarLodge x = written(longest() + "f");
        Check.same("load", x.load(), 17);
        Check.same("load again", x.load(), 17);
        Check.same("append to it", x.append('x'), 80);
        Check.same("errorPosition", x.errorPosition(), 79);
        Check.same("clearText", x.clearText(), 80);
    }

    private static AshlarLodge wrongText() {
        AshlarLodge x = Twin.busy();
        x.append('s');
        return x;
    }

    /** "IllegalStateException if the text is not a lodge"; "A call that throws an exception changes nothing." */
    private static void refusesToLoadWhatIsNoLodge() {
        Twin.refuses("load of no text", Check.STATE, AshlarLodge::new, AshlarLodge::load);
        Twin.refuses("load of L", Check.STATE, () -> written("L"), AshlarLodge::load);
        Twin.refuses("load of 80 characters", Check.STATE, () -> written(longest() + "s0"), AshlarLodge::load);
        Twin.refuses("load of too much", Check.STATE, () -> written("L3ff"), AshlarLodge::load);
        Twin.refuses("load of half a stone", Check.STATE, () -> wrongText(), AshlarLodge::load);
    }
}
