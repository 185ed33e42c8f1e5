import java.io.IOException;
import java.lang.reflect.Field;
import java.lang.reflect.InvocationTargetException;
import java.lang.reflect.Method;
import java.lang.reflect.Modifier;
import java.nio.file.Files;
import java.nio.file.Path;
import java.util.List;
import java.util.Set;
import java.util.TreeSet;
import java.util.regex.Matcher;
import java.util.regex.Pattern;
import java.util.stream.Collectors;
import java.util.stream.Stream;

/** What README.md says of the class and of its tests holds as they stand. */
public final class ReadmeTest {
    private static final List<String> ERRORS = List.of("INVALID_ARGUMENT", "NOT_POSSIBLE", "LIMIT_REACHED", "NOT_FOUND");
    private static final Pattern EXAMPLE = Pattern.compile("chip\\.(\\w+)\\(([^)]*)\\); +// (-?\\d+)[: ]?.*");

    private static final String README = Checks.textOf("README.md");

    public static void main(String[] args) throws Exception {
        example();
        calls();
        errors();
        constants();
        limit();
        tests();
        programs();
        Checks.end("ReadmeTest");
    }

    private static List<String> linesBetween(String from, String to) {
        int start = README.indexOf("\n" + from + "\n");
        int end = README.indexOf("\n" + to, start + 1);
        Checks.due("README has '" + from + "' ahead of '" + to + "'", 1, start >= 0 && end > start ? 1 : 0);
        return start >= 0 && end > start ? README.substring(start + 1, end).lines().toList() : List.of();
    }

    /** Each line of the example is a call of one object, and begins its comment with what it answers. */
    private static void example() throws ReflectiveOperationException {
        RollingDigits chip = new RollingDigits();
        int lines = 0;
        for (String line : linesBetween("```java", "```")) {
            if (line.startsWith("chip.")) {
                lines++;
                Matcher call = EXAMPLE.matcher(line);
                Checks.due("an example that can be read: " + line, 1, call.matches() ? 1 : 0);
                Checks.due("README: " + line, Long.parseLong(call.group(3)), answer(chip, call.group(1), call.group(2)));
            }
        }
        Checks.due("the example has lines", 1, lines > 10 ? 1 : 0);
    }

    private static int answer(RollingDigits chip, String name, String list) throws ReflectiveOperationException {
        String[] words = list.isEmpty() ? new String[0] : list.split(", ");
        Class<?>[] kinds = new Class<?>[words.length];
        Object[] arguments = new Object[words.length];
        for (int i = 0; i < words.length; i++) {
            kinds[i] = int.class;
            arguments[i] = words[i].startsWith("'") ? words[i].charAt(1) : (int) Integer.decode(words[i]);
            arguments[i] = arguments[i] instanceof Character c ? (int) c : arguments[i];
        }
        try {
            return (int) RollingDigits.class.getMethod(name, kinds).invoke(chip, arguments);
        } catch (InvocationTargetException e) {
            Checks.same(name + " throws", "nothing", e.getCause().toString());
            return 0;
        }
    }

    /** The first cells of a table's lines, without their signs of code. */
    private static List<String[]> table(String from, String to) {
        return linesBetween(from, to).stream().filter(line -> line.startsWith("| `"))
            .map(line -> line.substring(2).replace("`", "").split(" *\\| *", -1)).toList();
    }

    private static List<String[]> tableOfCalls() {
        return table("### What its calls answer", "### The four constants");
    }

    private static void calls() {
        Set<String> want = new TreeSet<>();
        for (Method method : RollingDigits.class.getDeclaredMethods()) {
            if (Modifier.isPublic(method.getModifiers())) {
                want.add(method.getName() + " " + method.getParameterCount());
            }
        }
        Set<String> got = new TreeSet<>();
        for (String[] row : tableOfCalls()) {
            String list = row[0].substring(row[0].indexOf('(') + 1, row[0].indexOf(')'));
            got.add(row[0].substring(0, row[0].indexOf('(')) + " " + (list.isEmpty() ? 0 : list.split(", ").length));
            if (Checks.hasDocument()) {
                String face = row[0].replace("(", "(int ").replace(", ", ", int ").replace("(int )", "()");
                int stands = Checks.sectionOf("The public face").contains("public int " + face + ";") ? 1 : 0;
                Checks.due("the document has " + face, 1, stands);
            }
        }
        Checks.same("README's calls", want.toString(), got.toString());
    }

    /** A call's errors are those that its promise names behind "Returns". */
    private static void errors() {
        for (String[] row : tableOfCalls()) {
            String call = row[0].substring(0, row[0].indexOf('('));
            List<String> got = row[3].isEmpty() ? List.of() : List.of(row[3].split(", "));
            if (Checks.hasDocument()) {
                String promise = Checks.textOf(Checks.DOCUMENT).split("\n## Promise \\d+: " + call + "\n")[1].split("\n## ")[0];
                String returns = promise.substring(promise.indexOf("\nReturns"));
                List<String> want = ERRORS.stream().filter(returns::contains).collect(Collectors.toList());
                Checks.same("README's errors of " + call, want.toString(), got.toString());
            }
        }
    }

    private static void constants() throws ReflectiveOperationException {
        List<String[]> rows = table("### The four constants", "### The limit of 512 calls");
        Checks.same("README's constants, in the order in which they are answered", ERRORS.toString(),
            rows.stream().map(row -> row[0]).toList().toString());
        for (String[] row : rows) {
            Field constant = RollingDigits.class.getField(row[0]);
            Checks.same("README's " + row[0], "" + constant.getInt(null), row[1]);
        }
    }

    private static void limit() {
        Checks.due("calls of an object in the tests", 512, Chip.MOST_CALLS);
        Checks.due("README tells the limit", 1, README.contains("An object is good for 512 calls") ? 1 : 0);
        if (Checks.hasDocument()) {
            boolean stands = Checks.sectionOf("What it is").contains("An object is used for at most 512 calls after it has been made");
            Checks.due("the document has the limit", 1, stands ? 1 : 0);
        }
    }

    private static void tests() throws IOException {
        Set<String> want;
        try (Stream<Path> files = Files.list(Path.of("src/test/java"))) {
            want = files.map(file -> file.getFileName().toString()).filter(name -> name.endsWith("Test.java"))
                .map(name -> name.substring(0, name.length() - 5)).collect(Collectors.toCollection(TreeSet::new));
        }
        Set<String> got = new TreeSet<>();
        for (String[] row : table("## How to run its tests", "In an `Edges...Test`")) {
            got.add(row[0]);
        }
        Checks.same("README's tests", want.toString(), got.toString());
    }

    private static void programs() {
        String[] named = {".ci/run", "src/main/java/RollingDigits.java", "src/test/java"};
        for (String name : named) {
            Checks.due("README names " + name, 1, README.contains(name) ? 1 : 0);
            Checks.due("there is " + name, 1, Files.exists(Path.of(name)) ? 1 : 0);
        }
        Checks.due(".ci/run can be run", 1, Files.isExecutable(Path.of(".ci/run")) ? 1 : 0);
        Checks.due("it tells that it passed or failed by its exit code", 1,
            Checks.textOf(".ci/run").endsWith("[ \"$failed\" -eq 0 ]\n") ? 1 : 0);
    }
}
