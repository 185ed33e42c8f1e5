import java.lang.reflect.Field;
import java.lang.reflect.Method;
import java.lang.reflect.Modifier;
import java.util.ArrayList;
import java.util.HashMap;
import java.util.List;
import java.util.Map;
import java.util.Set;
import java.util.TreeMap;
import java.util.TreeSet;
import java.util.regex.Matcher;
import java.util.regex.Pattern;

/**
 * The rules of LANGUAGE.md that can be seen in the class and in its source. It asks for less than the rules allow: what
 * the class needs newly is to be looked up there, and then added here.
 */
public final class LanguageTest {
    private static final Set<String> LIBRARY = Set.of("System.arraycopy", "Integer.bitCount");
    private static final Set<String> WORDS_NOT_USED = Set.of("import", "package", "try", "catch", "finally", "throw",
        "throws", "synchronized", "assert", "native", "volatile", "var", "toString", "equals", "hashCode", "clone", "String");
    private static final int MOST_LINES = 60;
    private static final int MOST_PARAMETERS = 7;
    private static final int MOST_CLASSES = 12;
    private static final int MOST_FIELDS = 20;
    private static final int MOST_DEPTH = 8;

    private static final Pattern WORD = Pattern.compile("[A-Za-z_]\\w*");
    private static final Pattern OF_A_CLASS = Pattern.compile("\\b[A-Z]\\w*[a-z]\\w*\\.\\w+");
    private static final Pattern CONSTANT_CHANGED = Pattern.compile("\\b[A-Z][A-Z_]+\\[[^\\]]*\\] *([-+*/%&|^]?=[^=]|\\+\\+|--)");
    private static final Pattern METHOD = Pattern.compile("( {4}| {8})(?:[\\w\\[\\]]+ )*(\\w+)\\([^)]*\\) \\{");

    /** Without comments and without what stands between quotes. */
    private static final String SOURCE = Checks.textOf(FaceTest.SOURCE).replaceAll("(?s)/\\*.*?\\*/", "")
        .replaceAll("//[^\n]*", "").replaceAll("'.'", "' '");

    public static void main(String[] args) {
        words();
        library();
        classes();
        fields();
        methods();
        rooms();
        loops();
        depth();
        Checks.end("LanguageTest");
    }

    private static void words() {
        Matcher word = WORD.matcher(SOURCE);
        while (word.find()) {
            Checks.due("the word " + word.group(), 0, WORDS_NOT_USED.contains(word.group()) ? 1 : 0);
        }
        Checks.due("lambdas", 0, SOURCE.contains("->") ? 1 : 0);
        Checks.due("method references", 0, SOURCE.contains("::") ? 1 : 0);
        Checks.due("texts", 0, SOURCE.contains("\"") ? 1 : 0);
    }

    private static void library() {
        Set<String> own = new TreeSet<>();
        for (Class<?> inside : RollingDigits.class.getDeclaredClasses()) {
            own.add(inside.getSimpleName());
        }
        Matcher used = OF_A_CLASS.matcher(SOURCE);
        while (used.find()) {
            boolean isOwn = own.contains(used.group().substring(0, used.group().indexOf('.')));
            Checks.due(used.group() + " is allowed", 1, isOwn || LIBRARY.contains(used.group()) ? 1 : 0);
        }
    }

    private static List<Class<?>> all() {
        List<Class<?>> all = new ArrayList<>(List.of(RollingDigits.class));
        all.addAll(List.of(RollingDigits.class.getDeclaredClasses()));
        return all;
    }

    private static void classes() {
        Checks.due("at most 12 classes", 1, all().size() <= MOST_CLASSES ? 1 : 0);
        for (Class<?> inside : RollingDigits.class.getDeclaredClasses()) {
            Checks.due("static " + inside, 1, Modifier.isStatic(inside.getModifiers()) ? 1 : 0);
            Checks.due("classes inside " + inside, 0, inside.getDeclaredClasses().length);
        }
    }

    private static void fields() {
        for (Class<?> kind : all()) {
            int fields = 0;
            for (Field field : kind.getDeclaredFields()) {
                boolean isStatic = Modifier.isStatic(field.getModifiers());
                fields += isStatic ? 0 : 1;
                Checks.due("final " + field, 1, !isStatic || Modifier.isFinal(field.getModifiers()) ? 1 : 0);
                Checks.due("kind of " + field, 1, isAllowed(field.getType()) ? 1 : 0);
                Checks.due("static kind of " + field, 1, !isStatic || isConstant(field.getType()) ? 1 : 0);
            }
            Checks.due("at most 20 fields in " + kind, 1, fields <= MOST_FIELDS ? 1 : 0);
        }
        Checks.due("constants that are changed", 0, CONSTANT_CHANGED.matcher(SOURCE).find() ? 1 : 0);
    }

    private static boolean isAllowed(Class<?> kind) {
        if (!kind.isArray()) {
            return kind.isPrimitive() || all().contains(kind);
        }
        Class<?> part = kind.getComponentType();
        boolean isRowOfNumbers = part.isArray() && part.getComponentType().isPrimitive();
        return part.isPrimitive() || all().contains(part) || isRowOfNumbers;
    }

    private static boolean isConstant(Class<?> kind) {
        return kind == int.class || kind == int[].class;
    }

    private static void methods() {
        Set<String> face = new TreeSet<>();
        for (Method method : RollingDigits.class.getDeclaredMethods()) {
            if (Modifier.isPublic(method.getModifiers())) {
                face.add(method.getName());
            }
        }
        for (Class<?> kind : all()) {
            for (Method method : kind.getDeclaredMethods()) {
                Checks.due("parameters of " + method, 1, method.getParameterCount() <= MOST_PARAMETERS ? 1 : 0);
                boolean isOfTheFace = kind == RollingDigits.class && Modifier.isPublic(method.getModifiers());
                Checks.due("name of " + method, 1, isOfTheFace || !face.contains(method.getName()) ? 1 : 0);
            }
        }
        for (Map.Entry<String, String> method : bodies().entrySet()) {
            Checks.due("lines of " + method.getKey(), 1, method.getValue().lines().count() <= MOST_LINES ? 1 : 0);
        }
    }

    /** All rows are made with an object, none in a call: what a run makes is its objects alone. */
    private static void rooms() {
        for (String line : SOURCE.split("\n")) {
            boolean isOfAField = line.matches(" +(private )?final \\S+ \\w+ = new .*;");
            boolean isOfTheConstructor = line.equals("            history[i] = new Chip();");
            Checks.due("new in " + line.trim(), 1, !line.contains("new ") || isOfAField || isOfTheConstructor ? 1 : 0);
        }
    }

    private static void loops() {
        Checks.due("loops without an end", 0, Pattern.compile("while \\(true\\)|for \\([^;]*;\\s*;").matcher(SOURCE).find() ? 1 : 0);
    }

    /** The methods by name; those of one name are taken for one. */
    private static Map<String, String> bodies() {
        Map<String, String> bodies = new TreeMap<>();
        String name = "";
        String end = "";
        for (String line : SOURCE.split("\n")) {
            Matcher method = METHOD.matcher(line);
            if (method.matches() && name.isEmpty()) {
                name = method.group(2);
                end = method.group(1) + "}";
            } else if (line.equals(end)) {
                name = "";
            } else if (!name.isEmpty()) {
                bodies.merge(name, line + "\n", String::concat);
            }
        }
        return bodies;
    }

    private static void depth() {
        Map<String, String> bodies = bodies();
        Map<String, Set<String>> called = new HashMap<>();
        for (String method : bodies.keySet()) {
            Set<String> names = new TreeSet<>();
            Matcher word = Pattern.compile("(\\w+)\\(").matcher(bodies.get(method));
            while (word.find()) {
                names.add(word.group(1));
            }
            names.retainAll(bodies.keySet());
            called.put(method, names);
        }
        Checks.due("methods that were found", 1, called.size() > 60 ? 1 : 0);
        for (String method : bodies.keySet()) {
            int depth = depthOf(method, called, 1);
            Checks.due("calls open from " + method + " on: " + depth, 1, depth <= MOST_DEPTH ? 1 : 0);
        }
    }

    /** copyFrom() calls those of its parts, which have the same name. */
    private static int depthOf(String method, Map<String, Set<String>> called, int open) {
        int depth = method.equals("copyFrom") ? 2 : 1;
        int deepest = 0;
        for (String next : called.get(method)) {
            if (!next.equals("copyFrom") || !method.equals("copyFrom")) {
                deepest = Math.max(deepest, open > MOST_DEPTH ? 1 : depthOf(next, called, open + 1));
            }
        }
        return depth + deepest;
    }
}
