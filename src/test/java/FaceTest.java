import java.lang.reflect.Constructor;
import java.lang.reflect.Field;
import java.lang.reflect.Method;
import java.lang.reflect.Modifier;
import java.util.Arrays;
import java.util.TreeSet;

/** The class has the public face of the document and nothing else that can be seen from outside. */
public final class FaceTest {
    private static final String[] FACE = {
        "int about(int) IllegalArgumentException",
        "int addCourse(int, int, int) IllegalArgumentException IllegalStateException",
        "int addMason(int, int) IllegalArgumentException IllegalStateException",
        "int append(int) IllegalArgumentException IllegalStateException",
        "int canSet()",
        "int cheapest(int) IndexOutOfBoundsException",
        "int clearText()",
        "int costLeft()",
        "int course(int, int) IndexOutOfBoundsException IllegalArgumentException",
        "int cut(int, int, int) IndexOutOfBoundsException IllegalArgumentException IllegalStateException",
        "int daysLeft()",
        "int errorPosition()",
        "int inspect(int) IndexOutOfBoundsException IllegalStateException",
        "int load() IllegalStateException",
        "int mason(int, int) IndexOutOfBoundsException IllegalArgumentException",
        "int nextDay(boolean)",
        "int pay()",
        "int recut(int, int, int) IndexOutOfBoundsException IllegalStateException",
        "int recutFor(int) IndexOutOfBoundsException",
        "int restore(int) IndexOutOfBoundsException IllegalStateException",
        "int runScript(int, long) IllegalArgumentException",
        "int save(int) IndexOutOfBoundsException",
        "int scrap(int) IndexOutOfBoundsException IllegalStateException",
        "int set(int) IndexOutOfBoundsException IllegalStateException",
        "int setBound(int) IllegalArgumentException",
        "int setRate(int, int) IndexOutOfBoundsException IllegalArgumentException",
        "int simulate(long, int) IllegalArgumentException",
        "int stone(int, int) IndexOutOfBoundsException IllegalArgumentException",
        "int undo() IllegalStateException",
        "int whyNotSet(int) IndexOutOfBoundsException",
        "int worstMark()",
        "int wouldEarn(int) IllegalArgumentException",
    };

    public static void main(String[] args) {
        Check.same("modifiers", Modifier.toString(AshlarLodge.class.getModifiers()), "public final");
        Check.same("NONE", AshlarLodge.NONE, -9);
        checkMethods();
        checkFields();
        for (Constructor<?> constructor : AshlarLodge.class.getDeclaredConstructors()) {
            Check.same("constructor", constructor.toString(), "public AshlarLodge()");
        }
        for (Class<?> inner : AshlarLodge.class.getDeclaredClasses()) {
            Check.same(inner + " is private and static",
                    Modifier.isPrivate(inner.getModifiers()) && Modifier.isStatic(inner.getModifiers()), true);
        }
        Check.end("FaceTest");
    }

    private static void checkMethods() {
        TreeSet<String> visible = new TreeSet<>();
        TreeSet<String> names = new TreeSet<>();
        for (Method method : AshlarLodge.class.getDeclaredMethods()) {
            if (!Modifier.isPrivate(method.getModifiers())) {
                visible.add(told(method));
                names.add(method.getName());
            }
        }
        Check.same("face", visible, new TreeSet<>(Arrays.asList(FACE)));
        for (Method method : AshlarLodge.class.getDeclaredMethods()) {
            if (Modifier.isPrivate(method.getModifiers())) {
                Check.same(method + " bears a public name", names.contains(method.getName()), false);
            }
        }
    }

    private static void checkFields() {
        for (Field field : AshlarLodge.class.getDeclaredFields()) {
            String modifiers = Modifier.toString(field.getModifiers());
            String due = field.getName().equals("NONE") ? "public static final" : "private";
            Check.same(field + " is NONE or private", modifiers.startsWith(due), true);
            Check.same(field + " is final", Modifier.isFinal(field.getModifiers()), true);
        }
    }

    private static String told(Method method) {
        StringBuilder text = new StringBuilder(method.getReturnType().getSimpleName());
        text.append(' ').append(method.getName()).append('(');
        for (int i = 0; i < method.getParameterCount(); i++) {
            text.append(i == 0 ? "" : ", ").append(method.getParameterTypes()[i].getSimpleName());
        }
        text.append(')');
        for (Class<?> exception : method.getExceptionTypes()) {
            text.append(' ').append(exception.getSimpleName());
        }
        return text.toString();
    }
}
