import java.lang.reflect.InvocationTargetException;
import java.lang.reflect.Method;
import java.nio.file.Files;
import java.nio.file.Path;
import java.util.ArrayList;
import java.util.List;
import java.util.regex.Matcher;
import java.util.regex.Pattern;
import java.util.stream.Stream;

/** What README.md says: each call of its run answers what stands behind it, and each test is named. */
final class ReadmeTest {
    private static final Checks CHECKS = new Checks();
    private static final String MADE = "Pebblegate x = new Pebblegate();";
    private static final Pattern CALL = Pattern.compile("x\\.(\\w+)\\((.*)\\);\\s+// (.*)");
    // What stands behind a call: its answer, and what that means.
    private static final Pattern ANSWER = Pattern.compile("(\"[^\"]*\"|throws \\w+|-?\\d+|true|false)(: .*)?");

    public static void main(String[] args) throws Exception {
        String readme = Files.readString(Path.of("README.md"));
        Pebblegate x = new Pebblegate();
        int calls = 0;
        for (String line : codeLines(readme)) {
            if (line.startsWith(MADE)) {
                x = new Pebblegate();
            } else if (!line.isBlank()) {
                check(x, line);
                calls++;
            }
        }
        CHECKS.due("it has a run of calls", calls > 40, true);
        checkTestsAreNamed(readme);
        CHECKS.end();
    }

    private static List<String> codeLines(String readme) {
        List<String> lines = new ArrayList<>();
        boolean isCode = false;
        for (String line : readme.split("\n")) {
            if (line.startsWith("```")) {
                isCode = line.equals("```java");
            } else if (isCode) {
                lines.add(line);
            }
        }
        return lines;
    }

    private static void check(Pebblegate x, String line) throws Exception {
        Matcher call = CALL.matcher(line);
        Matcher answer = ANSWER.matcher(call.matches() ? call.group(3) : "");
        if (!call.matches() || !answer.matches()) {
            CHECKS.fail("this line is no call with its answer: " + line);
            return;
        }
        String[] given = call.group(2).isEmpty() ? new String[0] : call.group(2).split(", ");
        CHECKS.due(line, answer(x, call.group(1), given), answer.group(1));
    }

    private static String answer(Pebblegate x, String name, String[] given) throws Exception {
        for (Method method : Pebblegate.class.getMethods()) {
            if (method.getName().equals(name) && method.getParameterCount() == given.length) {
                return answer(x, method, given);
            }
        }
        return "there is no such method";
    }

    private static String answer(Pebblegate x, Method method, String[] given) throws Exception {
        Object[] values = new Object[given.length];
        for (int i = 0; i < given.length; i++) {
            boolean isNumber = method.getParameterTypes()[i] == int.class;
            values[i] = isNumber ? (Object) Integer.valueOf(given[i]) : Boolean.valueOf(given[i]);
        }
        try {
            Object got = method.invoke(x, values);
            return got instanceof String ? "\"" + got + "\"" : String.valueOf(got);
        } catch (InvocationTargetException e) {
            return "throws " + e.getCause().getClass().getSimpleName();
        }
    }

    private static void checkTestsAreNamed(String readme) throws Exception {
        try (Stream<Path> files = Files.list(Path.of("src/test/java"))) {
            for (Path file : files.sorted().toList()) {
                String name = file.getFileName().toString().replace(".java", "");
                CHECKS.due(name + " is named", readme.contains("`" + name + "`"), true);
            }
        }
        CHECKS.due(".ci/run is named", readme.contains("    .ci/run\n"), true);
    }
}
