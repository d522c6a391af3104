/**
 * Lodges that are made alike again and again, so that one of them can be asked and then compared with another that was
 * not: in all that can be learned of it, also its text, the states it remembers and its save slots.
 */
final class Twin {
    interface Maker {
        AshlarLodge make();
    }

    interface Use {
        Object on(AshlarLodge x);
    }

    private static final Use[] ALL = {Check::tell, Twin::text, Twin::remembered, Twin::slots};

    private Twin() {
    }

    /** The call throws exactly this exception and changes nothing. */
    static void refuses(String what, Class<?> exception, Maker maker, Use use) {
        keeps(what, "throws " + exception.getName(), maker, use);
    }

    /** The call answers this and changes nothing. */
    static void keeps(String what, Object want, Maker maker, Use use) {
        answers(what, want, maker, use);
        for (Use part : ALL) {
            // Two lodges for each part, since to learn of one part uses the lodge up.
            AshlarLodge asked = maker.make();
            Check.answer(() -> use.on(asked));
            Check.same(what + ", everything behind it", part.on(asked), part.on(maker.make()));
        }
    }

    /** The call answers this; what it changes is not looked at. */
    static void answers(String what, Object want, Maker maker, Use use) {
        AshlarLodge asked = maker.make();
        Check.same(what, Check.answer(() -> use.on(asked)), want);
    }

    private static String text(AshlarLodge x) {
        return x.errorPosition() + " of " + x.clearText();
    }

    private static String remembered(AshlarLodge x) {
        StringBuilder all = new StringBuilder();
        for (Object left = Check.answer(x::undo); left instanceof Integer; left = Check.answer(x::undo)) {
            all.append(" undo ").append(left).append(Check.tell(x));
        }
        return all.toString();
    }

    private static String slots(AshlarLodge x) {
        StringBuilder all = new StringBuilder();
        for (int i = 0; i < 2; i++) {
            int slot = i;
            Object day = Check.answer(() -> x.restore(slot));
            all.append(" slot ").append(day).append(day instanceof Integer ? Check.tell(x) : "");
        }
        return all.toString();
    }

    /**
     * The stones 0 to 4 are set, rejected, scrapped, cut and accepted. It is day 2, behind a day with frost; pence are
     * owed and were paid. There is a text, two states are remembered, and the slot 0 is filled.
     */
    static AshlarLodge busy() {
        AshlarLodge x = Check.lodge("L3c912c621m512m203s002s009s119s008s001");
        x.inspect(0);
        x.inspect(1);
        x.inspect(2);
        x.pay();
        x.inspect(4);
        x.nextDay(true);
        x.nextDay(false);
        forget(x);
        x.scrap(2);
        x.set(0);
        return x;
    }

    /** The busy lodge, and frost on day 3. */
    static AshlarLodge frozen() {
        AshlarLodge x = busy();
        x.nextDay(true);
        return x;
    }

    /** 24 stones that are cut, of a course that needs one; work is left. */
    static AshlarLodge full() {
        AshlarLodge x = cut(24, 0);
        x.nextDay(false);
        forget(x);
        return x;
    }

    /** As many stones with this fault, of courses with one face; all the work is used. */
    static AshlarLodge cut(int stones, int fault) {
        AshlarLodge x = Check.lodge("L3c119m112m112");
        for (int s = 0; s < stones; s++) {
            x.cut(s / 12, 0, fault);
        }
        return x;
    }

    /** Forgets the remembered states and changes nothing else but the slot 0. */
    static void forget(AshlarLodge x) {
        x.save(0);
        x.restore(0);
    }
}
