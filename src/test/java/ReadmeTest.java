import java.io.IOException;
import java.lang.reflect.InvocationTargetException;
import java.lang.reflect.Method;
import java.nio.file.Files;
import java.nio.file.Path;
import java.util.Arrays;
import java.util.List;
import java.util.Map;
import java.util.TreeMap;
import java.util.regex.Matcher;
import java.util.regex.Pattern;
import java.util.stream.Stream;

/** Does the calls of README.md's example, and compares the answers that stand behind them there. */
public final class ReadmeTest {

    private static final Path README = Path.of("README.md");
    private static final Path TESTS = Path.of("src/test/java");
    private static final String FIRST_LINE = "BookIndex index = new BookIndex();";
    // A call, what keeps its answer, if anything does, and the answer.
    private static final Pattern CALL =
            Pattern.compile("(?:int (\\w+) = )?index\\.(\\w+)\\(([^)]*)\\); +// (-?[\\w.]+)(?::.*)?");
    private static final int CALLS_AT_LEAST = 5;

    private final BookIndex index = new BookIndex();
    private final Map<String, Integer> kept = new TreeMap<>();

    private ReadmeTest() {
    }

    private static List<String> example(String readme) {
        int open = readme.indexOf("```java\n") + "```java\n".length();
        return readme.substring(open, readme.indexOf("```", open)).lines().toList();
    }

    private Object[] arguments(String written) {
        String[] each = written.isBlank() ? new String[0] : written.split(", ");
        Object[] arguments = new Object[each.length];
        for (int i = 0; i < each.length; i++) {
            arguments[i] = kept.containsKey(each[i]) ? kept.get(each[i]) : Integer.valueOf(each[i]);
        }
        return arguments;
    }

    private Object answer(String name, Object[] arguments) throws ReflectiveOperationException {
        Class<?>[] types = new Class<?>[arguments.length];
        Arrays.fill(types, int.class);
        Method method = BookIndex.class.getMethod(name, types);
        try {
            return method.invoke(index, arguments);
        } catch (InvocationTargetException thrown) {
            return thrown.getCause();
        }
    }

    private void lineDue(String line) throws ReflectiveOperationException {
        Matcher call = CALL.matcher(line);
        Checks.due("a call with its answer: " + line, call.matches(), true);
        if (call.matches()) {
            Object got = answer(call.group(2), arguments(call.group(3)));
            Checks.due(line, String.valueOf(got), call.group(4));
            if (call.group(1) != null && got instanceof Integer number) {
                kept.put(call.group(1), number);
            }
        }
    }

    private static void exampleDue(String readme) throws ReflectiveOperationException {
        List<String> lines = example(readme);
        Checks.due("the first line", lines.get(0), FIRST_LINE);
        Checks.due("the example has calls", lines.size() > CALLS_AT_LEAST, true);
        ReadmeTest test = new ReadmeTest();
        for (String line : lines.subList(1, lines.size())) {
            test.lineDue(line);
        }
    }

    private static void namesDue(String readme) throws IOException {
        for (Method each : BookIndex.class.getMethods()) {
            if (each.getDeclaringClass() == BookIndex.class) {
                Checks.due("names " + each.getName(), readme.contains("`" + each.getName() + "`"), true);
            }
        }
        try (Stream<Path> files = Files.list(TESTS)) {
            for (Path each : files.toList()) {
                Checks.due("names " + each, readme.contains("`" + each.getFileName() + "`"), true);
            }
        }
        Checks.due("names .ci/run", readme.contains(".ci/run"), true);
    }

    public static void main(String[] args) throws IOException, ReflectiveOperationException {
        String readme = Files.readString(README);
        Checks.begin("README.md");
        exampleDue(readme);
        namesDue(readme);
        Checks.close("ReadmeTest");
    }
}
