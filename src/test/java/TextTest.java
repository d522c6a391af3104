/** Promises 2 to 5: the text buffer, its error position, and load. */
public final class TextTest {
    public static void main(String[] args) {
        appends();
        clears();
        findsErrors();
        findsErrorsInCourses();
        findsErrorsInMasons();
        findsErrorsInStones();
        loadsAll();
        loadsFrost();
        loadForgets();
        loadLeavesNothingBehind();
        refusesToLoad();
        Check.end("TextTest");
    }

    private static void appends() {
        AshlarLodge x = new AshlarLodge();
        Check.failsOn(x, "append(-1)", Check.ARGUMENT, () -> x.append(-1));
        Check.failsOn(x, "append(256)", Check.ARGUMENT, () -> x.append(256));
        Check.failsOn(x, "append(65536 + 76)", Check.ARGUMENT, () -> x.append(65536 + 76));
        Check.same("append(0)", x.append(0), 1);
        Check.same("append(255)", x.append(255), 2);
        for (int length = 3; length <= 80; length++) {
            Check.same("append", x.append('L'), length);
        }
        Check.failsOn(x, "append behind 80", Check.STATE, () -> x.append('L'));
        Check.failsOn(x, "append(256) behind 80", Check.ARGUMENT, () -> x.append(256));
        Check.same("clearText of 80", x.clearText(), 80);
    }

    private static void clears() {
        AshlarLodge x = new AshlarLodge();
        Check.same("clearText of none", x.clearText(), 0);
        Check.write(x, "L3c111");
        Check.same("clearText", x.clearText(), 6);
        Check.same("clearText again", x.clearText(), 0);
        Check.same("append behind clearText", x.append('L'), 1);
        Check.same("the old characters are gone", x.errorPosition(), 1);
    }

    private static void errorAt(String text, int want) {
        AshlarLodge x = new AshlarLodge();
        Check.write(x, text);
        Check.asks(x, "errorPosition of " + text, want, x::errorPosition);
        Check.same("the text is kept", x.clearText(), text.length());
    }

    private static void findsErrors() {
        errorAt("", 0);
        errorAt("l3", 0);
        errorAt("3", 0);
        errorAt("\0", 0);
        errorAt("L", 1);
        errorAt("Lc", 1);
        errorAt("L/", 1);
        errorAt("L:", 1);
        errorAt("L0", AshlarLodge.NONE);
        errorAt("L9", AshlarLodge.NONE);
        errorAt("L10", 2);
        errorAt("L3 ", 2);
        errorAt("L3L3", 2);
        errorAt("L3f", AshlarLodge.NONE);
        errorAt("L3ff", 3);
        errorAt("L3fc111f", 7);
        errorAt("L3F", 2);
        errorAt("L3\0", 2);
    }

    private static void findsErrorsInCourses() {
        errorAt("L3c", 3);
        errorAt("L3c0", 3);
        errorAt("L3c9", 4);
        errorAt("L3c90", 4);
        errorAt("L3c97", 4);
        errorAt("L3c96", 5);
        errorAt("L3c960", 5);
        errorAt("L3c96f", 5);
        errorAt("L3c969", AshlarLodge.NONE);
        errorAt("L3c111", AshlarLodge.NONE);
        errorAt("L3c1111", 6);
        errorAt("L3c111c111c111c111c111c111", AshlarLodge.NONE);
        errorAt("L3c111c111c111c111c111c111c", 26);
        errorAt("L3c111c111c111c111c111c111m101c111", 30);
    }

    private static void findsErrorsInMasons() {
        errorAt("L3m", 3);
        errorAt("L3m0", 3);
        errorAt("L3m9", 4);
        errorAt("L3m92", 4);
        errorAt("L3m90", 5);
        errorAt("L3m900", 5);
        errorAt("L3m901", AshlarLodge.NONE);
        errorAt("L3m909", AshlarLodge.NONE);
        errorAt("L3m910", AshlarLodge.NONE);
        errorAt("L3m912", AshlarLodge.NONE);
        errorAt("L3m913", 5);
        errorAt("L3m1", 4);
        errorAt("L3m11", 5);
        errorAt("L3m101m101m101m101m101m101", AshlarLodge.NONE);
        errorAt("L3m101m101m101m101m101m101m", 26);
    }

    private static void findsErrorsInStones() {
        errorAt("L3s", 2);
        errorAt("L3c111s", 6);
        errorAt("L3m101s", 6);
        errorAt("L3s000m101c111", 2);
        errorAt("L3m101c111s", 11);
        errorAt("L3m101c111s1", 11);
        errorAt("L3m101m101c111s1", 16);
        errorAt("L3m101c111s01", 12);
        errorAt("L3m101c111c111s01", 17);
        errorAt("L3m101c111s00", 13);
        errorAt("L3m101c111s00f", 13);
        errorAt("L3m101c111s000", AshlarLodge.NONE);
        errorAt("L3m101c111s009", AshlarLodge.NONE);
        errorAt("L3m101c111s010c111", 12);
        errorAt("L3c111m101s000fs009", AshlarLodge.NONE);
    }

    private static void loadsAll() {
        AshlarLodge x = new AshlarLodge();
        Check.write(x, "L7c642m412c421m301s006s112s103f");
        x.clearText();
        Check.write(x, "L7c642m412c421m301s006s112s103");
        Check.same("load", x.load(), 3);
        Check.same("state behind load", Check.tell(x), "[2, 2, 3, 0, 0, 7, 0, 0, 0, 0, 0, 0,"
                + " 6, 4, 2, 0, 2, 2, 0, 4, 2, 1, 0, 1, 1, 0,"
                + " 4, 12, 12, 0, 0, 0, 3, 1, 1, 0, 0, 0,"
                + " 0, 0, 6, 0, 0, 0, 1, 1, 2, 0, 0, 1, 0, 1, 3, 0, 0, 1]");
        Check.same("the text is kept", x.clearText(), 30);
        Check.write(x, "L4");
        Check.same("load of an empty lodge", x.load(), 0);
        Check.same("state behind it", Check.tell(x), "[0, 0, 0, 0, 0, 4, 0, 0, 0, 0, 0, 0]");
    }

    private static void loadsFrost() {
        AshlarLodge early = Check.lodge("L3fm412");
        AshlarLodge late = Check.lodge("L3m412f");
        Check.same("frost ahead", Check.tell(early), "[0, 1, 0, 0, 1, 3, 0, 0, 0, 0, 0, 0, 4, 12, 0, 0, 0, 0]");
        Check.same("frost behind", Check.tell(late), Check.tell(early));
        early.clearText();
        Check.write(early, "L3m412");
        early.load();
        Check.same("no frost", Check.tell(early), "[0, 1, 0, 0, 0, 3, 0, 0, 0, 0, 0, 0, 4, 12, 12, 0, 0, 0]");
    }

    private static void loadForgets() {
        AshlarLodge x = Check.lodge("L3c642m412s000");
        String loaded = Check.tell(x);
        x.inspect(0);
        x.pay();
        x.nextDay(true);
        x.setBound(9);
        x.save(0);
        x.save(1);
        Check.same("load again", x.load(), 1);
        Check.same("all is as the text tells", Check.tell(x), loaded);
        Check.failsOn(x, "undo behind load", Check.STATE, x::undo);
        Check.failsOn(x, "restore(0) behind load", Check.STATE, () -> x.restore(0));
        Check.failsOn(x, "restore(1) behind load", Check.STATE, () -> x.restore(1));
    }

    /** Whatever the lodge, the trials on it and its masons and stones were before, a load knows nothing of it. */
    private static void loadLeavesNothingBehind() {
        AshlarLodge x = Check.lodge("L3c911c811m512m412s009s119s000");
        x.inspect(0);
        x.recut(1, 0, 1);
        x.inspect(1);
        x.inspect(2);
        x.pay();
        x.nextDay(true);
        x.nextDay(false);
        x.simulate(5, 99);
        x.clearText();
        Check.write(x, "L3");
        x.load();
        Check.same("an empty lodge", Check.tell(x), "[0, 0, 0, 0, 0, 3, 0, 0, 0, 0, 0, 0]");
        x.addMason(1, 2);
        x.addMason(3, 4);
        x.addCourse(5, 1, 1);
        Check.same("new masons", Check.tell(x), "[1, 2, 0, 0, 0, 3, 0, 0, 0, 0, 0, 0,"
                + " 5, 1, 1, 0, 1, 0, 0, 1, 2, 0, 0, 0, 0, 3, 4, 0, 0, 0, 0]");
        x.nextDay(false);
        x.cut(1, 0, 7);
        x.cut(0, 0, 8);
        Check.same("new stones", Check.tell(x), "[1, 2, 2, 1, 0, 3, 0, 0, 0, 0, 0, 0,"
                + " 5, 1, 1, 0, 1, 2, 0, 1, 2, 1, 0, 0, 0, 3, 4, 3, 0, 0, 0,"
                + " 0, 1, 7, 0, 0, 1, 0, 0, 8, 0, 0, 0]");
    }

    private static void refusesToLoad() {
        AshlarLodge x = new AshlarLodge();
        Check.failsOn(x, "load of no text", Check.STATE, x::load);
        x.addCourse(5, 4, 3);
        x.save(1);
        x.setBound(8);
        Check.write(x, "L1c123m1");
        Check.failsOn(x, "load of half a mason", Check.STATE, x::load);
        Check.same("the text is kept", x.errorPosition(), 8);
        Check.same("the states are kept", x.undo(), 1);
        Check.same("the slot is kept", x.restore(1), 0);
        Check.same("with what is in it", x.course(0, 0), 5);
    }
}
