import java.lang.reflect.InvocationTargetException;
import java.lang.reflect.Method;
import java.lang.reflect.Modifier;
import java.nio.file.Files;
import java.nio.file.Path;
import java.util.ArrayList;
import java.util.List;
import java.util.Set;
import java.util.TreeSet;
import java.util.regex.Matcher;
import java.util.regex.Pattern;

/**
 * README.md says what is so: its example answers what the remarks beside it say, its table of calls
 * has every call of the class with its parameters, its table of exceptions names the calls that
 * declare them, and its list of tests has every test.
 */
public final class ReadmeTest {
    private static final Pattern EXAMPLE_LINE =
        Pattern.compile("desk\\.(\\w+)\\(([^)]*)\\);\\s*// (throws \\w+|-?\\d+|true|false)(:.*)?");
    private static final Pattern NEW_DESK = Pattern.compile("PacketDesk desk = new PacketDesk\\((\\d+)\\);");
    private static final Pattern CALL_ROW = Pattern.compile("\\| `(\\w+)\\(([^)]*)\\)` \\| [^|]+ \\| [^|]+ \\|");
    private static final Pattern EXCEPTION_ROW = Pattern.compile("\\| `(\\w+Exception)` \\| [^|]+ \\| ([^|]+) \\|");
    private static final Pattern QUOTED = Pattern.compile("`(\\w+)`");

    private static int wrong = 0;

    public static void main(String[] args) throws Exception {
        String text = Files.readString(Path.of("README.md"));
        List<String> lines = List.of(text.split("\n"));
        example(lines);
        calls(lines);
        exceptions(lines);
        tests(text);
        System.out.println(wrong == 0 ? "README.md is as due" : wrong + " faults in README.md");
        if (wrong != 0) {
            System.exit(1);
        }
    }

    private static void due(boolean holds, String text) {
        if (!holds) {
            wrong++;
            System.out.println("not as due: " + text);
        }
    }

    // ---- the example

    private static void example(List<String> lines) throws Exception {
        int first = lines.indexOf("```java");
        int last = first < 0 ? -1 : first + 1 + lines.subList(first + 1, lines.size()).indexOf("```");
        due(first >= 0 && last > first + 2, "an example");
        if (wrong != 0) {
            return;
        }
        Matcher made = NEW_DESK.matcher(lines.get(first + 1));
        due(made.matches(), "the example begins with a desk");
        if (wrong != 0) {
            return;
        }
        PacketDesk desk = new PacketDesk(Integer.parseInt(made.group(1)));
        for (String line : lines.subList(first + 2, last)) {
            Matcher m = EXAMPLE_LINE.matcher(line);
            due(m.matches(), "a call with its answer: " + line);
            if (m.matches()) {
                String got = answer(desk, m.group(1), m.group(2));
                due(got.equals(m.group(3)), line + " (answered: " + got + ")");
            }
        }
    }

    private static String answer(PacketDesk desk, String name, String written) throws Exception {
        Method method = methodOf(name);
        String[] texts = written.split(", ");
        if (method == null || texts.length != method.getParameterCount()) {
            return "no such call";
        }
        Object[] values = new Object[texts.length];
        for (int i = 0; i < texts.length; i++) {
            boolean isLong = method.getParameterTypes()[i] == long.class;
            values[i] = isLong ? (Object) Long.valueOf(texts[i]) : (Object) Integer.valueOf(texts[i]);
        }
        try {
            return String.valueOf(method.invoke(desk, values));
        } catch (InvocationTargetException e) {
            return "throws " + e.getCause().getClass().getSimpleName();
        }
    }

    // ---- the tables

    private static void calls(List<String> lines) {
        Set<String> told = new TreeSet<>();
        for (String line : lines) {
            Matcher m = CALL_ROW.matcher(line);
            if (m.matches()) {
                Method method = methodOf(m.group(1));
                due(told.add(m.group(1)), m.group(1) + " is told once");
                due(method != null && method.getParameterCount() == m.group(2).split(", ").length, line);
            }
        }
        due(told.equals(allCalls()), "every call is told: " + told + " for " + allCalls());
    }

    private static void exceptions(List<String> lines) {
        Set<String> told = new TreeSet<>();
        for (String line : lines) {
            Matcher m = EXCEPTION_ROW.matcher(line);
            if (m.matches()) {
                told.add(m.group(1));
                Set<String> names = callsNamed(m.group(2));
                Set<String> declared = callsThatThrow(m.group(1));
                due(names.equals(declared), m.group(1) + ": " + names + " for " + declared);
            }
        }
        Set<String> declared = new TreeSet<>();
        for (Method method : publicMethods()) {
            for (Class<?> type : method.getExceptionTypes()) {
                declared.add(type.getSimpleName());
            }
        }
        due(told.equals(declared), "every exception is told: " + told + " for " + declared);
    }

    private static Set<String> callsNamed(String cell) {
        Set<String> quoted = new TreeSet<>();
        Matcher m = QUOTED.matcher(cell);
        while (m.find()) {
            quoted.add(m.group(1));
        }
        if (!cell.startsWith("all")) {
            return quoted;
        }
        Set<String> rest = allCalls();
        rest.removeAll(quoted);
        return rest;
    }

    private static Set<String> callsThatThrow(String exception) {
        Set<String> names = new TreeSet<>();
        for (Method method : publicMethods()) {
            for (Class<?> type : method.getExceptionTypes()) {
                if (type.getSimpleName().equals(exception)) {
                    names.add(method.getName());
                }
            }
        }
        return names;
    }

    // ---- the tests

    private static void tests(String text) throws Exception {
        due(text.contains("    .ci/run\n"), "the command that runs the tests");
        try (var files = Files.list(Path.of("src/test/java"))) {
            for (Path file : (Iterable<Path>) files::iterator) {
                due(text.contains(file.getFileName() + "`"), "the test " + file + " is told");
            }
        }
    }

    // ---- the class

    private static List<Method> publicMethods() {
        List<Method> found = new ArrayList<>();
        for (Method method : PacketDesk.class.getDeclaredMethods()) {
            if (Modifier.isPublic(method.getModifiers())) {
                found.add(method);
            }
        }
        return found;
    }

    private static Set<String> allCalls() {
        Set<String> names = new TreeSet<>();
        for (Method method : publicMethods()) {
            names.add(method.getName());
        }
        return names;
    }

    private static Method methodOf(String name) {
        for (Method method : publicMethods()) {
            if (method.getName().equals(name)) {
                return method;
            }
        }
        return null;
    }
}
