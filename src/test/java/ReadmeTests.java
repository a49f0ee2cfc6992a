import java.lang.reflect.InvocationTargetException;
import java.lang.reflect.Method;
import java.lang.reflect.Modifier;
import java.nio.charset.StandardCharsets;
import java.nio.file.Files;
import java.nio.file.Path;
import java.util.List;
import java.util.TreeSet;
import java.util.regex.Matcher;
import java.util.regex.Pattern;
import java.util.stream.Stream;

/**
 * What README.md shows of the class's use: each call in its Java blocks is made, in its order, on the object that the block
 * makes, and must answer what the line tells behind it.
 */
public final class ReadmeTests {
    private static final Pattern MADE = Pattern.compile("RingComputer computer = new RingComputer\\((-?\\d+), (-?\\d+)\\);");
    private static final Pattern CALL = Pattern.compile("computer\\.(\\w+)\\(([^)]*)\\);\\s+// ([-\\w]+)(:.*)?");
    private static final int MOST_CALLS = 512;

    private static final TreeSet<String> shown = new TreeSet<>();
    private static RingComputer computer = null;
    private static int calls = 0;

    private ReadmeTests() {
    }

    public static void main(String[] args) throws Exception {
        List<String> lines = Files.readAllLines(Path.of("README.md"), StandardCharsets.UTF_8);
        Bench.part("use");
        use(lines);
        Bench.part("face");
        face();
        Bench.part("tests");
        tests(String.join("\n", lines));
        Bench.end("readme");
    }

    private static void use(List<String> lines) throws Exception {
        boolean inside = false;
        for (String line : lines) {
            String text = line.trim();
            if (text.startsWith("```")) {
                inside = text.equals("```java");
                computer = null;
            } else if (inside && !text.isEmpty() && !text.startsWith("//")) {
                follow(text);
            }
        }
    }

    private static void follow(String text) throws Exception {
        Matcher made = MADE.matcher(text);
        Matcher call = CALL.matcher(text);
        if (made.lookingAt()) {
            computer = new RingComputer(Integer.parseInt(made.group(1)), Integer.parseInt(made.group(2)));
            calls = 0;
        } else if (computer != null && call.matches()) {
            calls++;
            Bench.yes("a block has at most " + MOST_CALLS + " calls", calls <= MOST_CALLS);
            Bench.due(text, answer(call.group(1), call.group(2)), number(call.group(3)));
        } else {
            Bench.yes("'" + text + "' is a call of the block's object, with its answer", false);
        }
    }

    private static long answer(String name, String list) throws Exception {
        String[] given = list.isEmpty() ? new String[0] : list.split(", ");
        for (Method method : RingComputer.class.getMethods()) {
            if (method.getName().equals(name) && method.getParameterCount() == given.length) {
                Object[] values = new Object[given.length];
                for (int i = 0; i < given.length; i++) {
                    boolean flag = method.getParameterTypes()[i] == boolean.class;
                    values[i] = flag ? (Object) Boolean.parseBoolean(given[i]) : (Object) (int) number(given[i]);
                }
                shown.add(name);
                return number(String.valueOf(invoke(method, values)));
            }
        }
        Bench.yes("there is " + name + " with " + given.length + " arguments", false);
        return 0;
    }

    private static Object invoke(Method method, Object[] values) throws IllegalAccessException {
        try {
            return method.invoke(computer, values);
        } catch (InvocationTargetException thrown) {
            Bench.yes(method.getName() + " does not throw " + thrown.getCause(), false);
            return 0;
        }
    }

    private static long number(String text) {
        if (text.equals("true") || text.equals("false")) {
            return text.equals("true") ? 1 : 0;
        }
        return Long.decode(text);
    }

    /** Every call of the face is shown at least once. */
    private static void face() {
        for (Method method : RingComputer.class.getDeclaredMethods()) {
            if (Modifier.isPublic(method.getModifiers())) {
                Bench.yes(method.getName() + " is shown", shown.contains(method.getName()));
            }
        }
    }

    /** How the tests are run is told, and what each of them is for. */
    private static void tests(String readme) throws Exception {
        Bench.yes("README.md tells '.ci/run'", readme.contains("`.ci/run`"));
        Bench.yes(".ci/run is executable", Files.isExecutable(Path.of(".ci/run")));
        try (Stream<Path> files = Files.list(Path.of("src/test/java"))) {
            for (Path file : files.sorted().toList()) {
                String name = file.getFileName().toString().replace(".java", "");
                Bench.yes("README.md tells what " + name + " is for", readme.contains("`" + name + "`"));
            }
        }
    }
}
