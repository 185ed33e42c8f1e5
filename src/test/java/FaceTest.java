import java.lang.reflect.Constructor;
import java.lang.reflect.Field;
import java.lang.reflect.Method;
import java.lang.reflect.Modifier;
import java.util.ArrayList;
import java.util.List;
import java.util.Set;
import java.util.TreeSet;

/** The public face: its members, and no others that are not private; where the document is at hand, by its own lines. */
public final class FaceTest {
    static final String SOURCE = "src/main/java/RollingDigits.java";

    private static final String[] CALLS = {
        "write 2", "read 1", "burst 1", "pass 1", "alarm 3", "arm 2", "clear 0", "fail 3", "heal 2", "set 2",
        "registerOf 2", "alarmOf 2", "date 1", "log 2", "readable 0", "safeIn 0", "ifBurst 2", "comesIn 1",
        "share 0", "count 1", "undo 0", "type 1", "clearText 0", "fault 1", "play 0"};

    public static void main(String[] args) throws Exception {
        constants();
        methods();
        classes();
        if (Checks.hasDocument()) {
            membersOfTheDocument();
            headingsOfTheDocument();
        }
        Checks.end("FaceTest");
    }

    private static void constants() throws Exception {
        Checks.due("INVALID_ARGUMENT", Checks.INVALID, RollingDigits.INVALID_ARGUMENT);
        Checks.due("NOT_POSSIBLE", Checks.IMPOSSIBLE, RollingDigits.NOT_POSSIBLE);
        Checks.due("LIMIT_REACHED", Checks.LIMIT, RollingDigits.LIMIT_REACHED);
        Checks.due("NOT_FOUND", Checks.NONE, RollingDigits.NOT_FOUND);
        int open = 0;
        for (Field field : RollingDigits.class.getDeclaredFields()) {
            if (!Modifier.isPrivate(field.getModifiers())) {
                open++;
                Checks.due("public static final " + field.getName(), 25, field.getModifiers());
            }
        }
        Checks.due("open fields", 4, open);
    }

    private static void methods() {
        Set<String> want = new TreeSet<>(Set.of(CALLS));
        Set<String> got = new TreeSet<>();
        Set<String> names = new TreeSet<>();
        for (Method method : RollingDigits.class.getDeclaredMethods()) {
            if (!Modifier.isPrivate(method.getModifiers())) {
                got.add(method.getName() + " " + method.getParameterCount());
                names.add(method.getName());
                Checks.due("public " + method.getName(), 1, method.getModifiers());
                Checks.due("int " + method.getName(), 1, method.getReturnType() == int.class ? 1 : 0);
            }
        }
        Checks.same("calls", want.toString(), got.toString());
        for (Method method : RollingDigits.class.getDeclaredMethods()) {
            if (Modifier.isPrivate(method.getModifiers())) {
                Checks.due("private " + method.getName(), 0, names.contains(method.getName()) ? 1 : 0);
            }
        }
        Constructor<?>[] constructors = RollingDigits.class.getDeclaredConstructors();
        Checks.due("constructors", 1, constructors.length);
        Checks.due("public constructor", 1, constructors[0].getModifiers());
        Checks.due("its parameters", 0, constructors[0].getParameterCount());
    }

    private static void classes() {
        Checks.due("public final class", 17, RollingDigits.class.getModifiers());
        for (Class<?> inside : RollingDigits.class.getDeclaredClasses()) {
            Checks.due("not public " + inside, 0, inside.getModifiers() & (Modifier.PUBLIC | Modifier.PROTECTED));
        }
    }

    /** Each line of the document's face stands in the class, in the same order, and no other public one. */
    private static void membersOfTheDocument() {
        List<String> want = new ArrayList<>();
        for (String line : Checks.sectionOf("The public face").split("\n")) {
            if (line.trim().startsWith("public ")) {
                want.add(line.trim().replace(";", "").replace(" {", ""));
            }
        }
        List<String> got = new ArrayList<>();
        for (String line : Checks.textOf(SOURCE).split("\n")) {
            if (line.trim().startsWith("public ")) {
                got.add(line.trim().replace(";", "").replace(" {", ""));
            }
        }
        Checks.due("members of the document's face", 31, want.size());
        Checks.same("the public face", want.toString(), got.toString());
    }

    /** "Ahead of the calls .. the interface says: ---- ..": the class has these headings ahead of the same calls. */
    private static void headingsOfTheDocument() {
        String source = Checks.textOf(SOURCE);
        int headings = 0;
        for (String line : Checks.sectionOf("Changes and errors").split("\n")) {
            int says = line.indexOf(" the interface says: ");
            if (says >= 0) {
                headings++;
                String heading = line.substring(says + 21, line.length() - 1);
                String[] parts = source.split("\n    // " + heading + "\n");
                Checks.due("parts of the class at '" + heading + "'", 2, parts.length);
                String want = line.substring(0, says).replace("Ahead of the calls ", "").replace("`", "");
                Checks.same("calls behind '" + heading + "'", want, callsAheadOfHeading(parts[parts.length - 1]));
            }
        }
        Checks.due("headings", 6, headings);
    }

    private static String callsAheadOfHeading(String source) {
        StringBuilder calls = new StringBuilder();
        for (String line : source.split("\n    // ---- ")[0].split("\n")) {
            if (line.startsWith("    public int ")) {
                calls.append(calls.length() == 0 ? "" : ", ").append(line, 15, line.indexOf('('));
            }
        }
        return calls.toString();
    }
}
