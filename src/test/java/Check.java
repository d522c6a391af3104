import java.util.ArrayList;
import java.util.List;
import java.util.Objects;

/** What the tests share: comparing answers, awaiting exceptions, and reading all that a lodge tells. */
final class Check {
    static final Class<?> INDEX = IndexOutOfBoundsException.class;
    static final Class<?> ARGUMENT = IllegalArgumentException.class;
    static final Class<?> STATE = IllegalStateException.class;

    interface Call {
        Object run();
    }

    private static int wrong = 0;

    private Check() {
    }

    static void same(String what, Object got, Object want) {
        if (!Objects.equals(got, want)) {
            wrong++;
            System.out.println(what + " answered " + got + ", due is " + want);
        }
    }

    /** Exactly this class is awaited: what the machine throws is of a class below it. */
    static void fails(String what, Class<?> exception, Call call) {
        same(what, answer(call), "throws " + exception.getName());
    }

    /** Also looks whether the call left all as it was, and remembered no state. */
    static void failsOn(AshlarLodge x, String what, Class<?> exception, Call call) {
        String before = tell(x);
        fails(what, exception, call);
        same(what + ", state behind it", tell(x), before);
    }

    /** For calls that answer and must change nothing. */
    static void asks(AshlarLodge x, String what, Object want, Call call) {
        String before = tell(x);
        same(what, answer(call), want);
        same(what + ", state behind it", tell(x), before);
    }

    static Object answer(Call call) {
        try {
            return call.run();
        } catch (RuntimeException e) {
            return "throws " + e.getClass().getName();
        }
    }

    static AshlarLodge lodge(String text) {
        AshlarLodge x = new AshlarLodge();
        write(x, text);
        x.load();
        return x;
    }

    static void write(AshlarLodge x, String text) {
        for (int i = 0; i < text.length(); i++) {
            x.append(text.charAt(i));
        }
    }

    /** All that about, course, mason and stone tell. */
    static String tell(AshlarLodge x) {
        List<Integer> all = new ArrayList<>();
        for (int what = 0; what <= 11; what++) {
            all.add(x.about(what));
        }
        for (int c = 0; c < x.about(0); c++) {
            for (int what = 0; what <= 6; what++) {
                all.add(x.course(c, what));
            }
        }
        for (int m = 0; m < x.about(1); m++) {
            for (int what = 0; what <= 5; what++) {
                all.add(x.mason(m, what));
            }
        }
        for (int s = 0; s < x.about(2); s++) {
            for (int what = 0; what <= 5; what++) {
                all.add(x.stone(s, what));
            }
        }
        return all.toString();
    }

    static void end(String test) {
        System.out.println(wrong == 0 ? test + ": all answers are as due" : wrong + " answers are not as due");
        if (wrong != 0) {
            System.exit(1);
        }
    }
}
