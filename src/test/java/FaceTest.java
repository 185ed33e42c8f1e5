import java.lang.reflect.Constructor;
import java.lang.reflect.Field;
import java.lang.reflect.Method;
import java.lang.reflect.Modifier;
import java.util.Set;
import java.util.TreeSet;

/** The public face: its members, and no others that are not private; and rule 5 of LANGUAGE.md. */
public final class FaceTest {
    private static final String[] CALLS = {
        "write 2", "read 1", "burst 1", "pass 1", "alarm 3", "arm 2", "clear 0", "fail 3", "heal 2", "set 2",
        "registerOf 2", "alarmOf 2", "date 1", "log 2", "readable 0", "safeIn 0", "ifBurst 2", "comesIn 1",
        "share 0", "count 1", "undo 0", "type 1", "clearText 0", "fault 1", "play 0"};

    public static void main(String[] args) throws Exception {
        constants();
        methods();
        classes();
        Checks.end("FaceTest");
    }

    private static void constants() throws Exception {
        Checks.due("INVALID_ARGUMENT", Checks.INVALID, RollingDigits.INVALID_ARGUMENT);
        Checks.due("NOT_POSSIBLE", Checks.IMPOSSIBLE, RollingDigits.NOT_POSSIBLE);
        Checks.due("LIMIT_REACHED", Checks.LIMIT, RollingDigits.LIMIT_REACHED);
        Checks.due("NOT_FOUND", Checks.NONE, RollingDigits.NOT_FOUND);
        int open = 0;
        for (Field field : RollingDigits.class.getDeclaredFields()) {
            if (!Modifier.isPrivate(field.getModifiers())) {
                open++;
                Checks.due("public static final " + field.getName(), 25, field.getModifiers());
            }
        }
        Checks.due("open fields", 4, open);
    }

    private static void methods() {
        Set<String> want = new TreeSet<>(Set.of(CALLS));
        Set<String> got = new TreeSet<>();
        Set<String> names = new TreeSet<>();
        for (Method method : RollingDigits.class.getDeclaredMethods()) {
            if (!Modifier.isPrivate(method.getModifiers())) {
                got.add(method.getName() + " " + method.getParameterCount());
                names.add(method.getName());
                Checks.due("public " + method.getName(), 1, method.getModifiers());
                Checks.due("int " + method.getName(), 1, method.getReturnType() == int.class ? 1 : 0);
            }
        }
        Checks.same("calls", want.toString(), got.toString());
        for (Method method : RollingDigits.class.getDeclaredMethods()) {
            if (Modifier.isPrivate(method.getModifiers())) {
                Checks.due("private " + method.getName(), 0, names.contains(method.getName()) ? 1 : 0);
            }
        }
        Constructor<?>[] constructors = RollingDigits.class.getDeclaredConstructors();
        Checks.due("constructors", 1, constructors.length);
        Checks.due("public constructor", 1, constructors[0].getModifiers());
        Checks.due("its parameters", 0, constructors[0].getParameterCount());
    }

    private static void classes() {
        Checks.due("public final class", 17, RollingDigits.class.getModifiers());
        Checks.due("at most 11 classes inside", 1, RollingDigits.class.getDeclaredClasses().length <= 11 ? 1 : 0);
        staticsAreFinal(RollingDigits.class);
        for (Class<?> inside : RollingDigits.class.getDeclaredClasses()) {
            Checks.due("static " + inside, 1, Modifier.isStatic(inside.getModifiers()) ? 1 : 0);
            Checks.due("not public " + inside, 0, inside.getModifiers() & (Modifier.PUBLIC | Modifier.PROTECTED));
            staticsAreFinal(inside);
        }
    }

    private static void staticsAreFinal(Class<?> kind) {
        for (Field field : kind.getDeclaredFields()) {
            if (Modifier.isStatic(field.getModifiers())) {
                Checks.due("final " + field, 1, Modifier.isFinal(field.getModifiers()) ? 1 : 0);
            }
        }
    }
}
