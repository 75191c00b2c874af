import java.io.IOException;
import java.lang.reflect.InvocationTargetException;
import java.lang.reflect.Method;
import java.lang.reflect.Modifier;
import java.nio.file.Files;
import java.nio.file.Path;
import java.util.ArrayList;
import java.util.List;
import java.util.Set;
import java.util.TreeSet;
import java.util.regex.Matcher;
import java.util.regex.Pattern;
import java.util.stream.Stream;

/**
 * README.md is so: each call that it shows is made, in the order shown, and must answer what its
 * comment begins with. A line of the shown code that is not understood here is a fault too.
 */
public final class ReadmeTest extends Check {
    private static final Path README = Path.of("README.md");
    private static final Path TESTS = Path.of("src", "test", "java");
    private static final Pattern MADE = Pattern.compile("StockDrawer x = new StockDrawer\\((-?\\d+)\\);");
    private static final Pattern CALL = Pattern.compile("x\\.(\\w+)\\(([^()]*)\\);\\s+// (.+)");
    private static final Pattern NAMED_TEST = Pattern.compile("`(\\w+Test)`");

    private static final Set<String> shown = new TreeSet<>();
    private static StockDrawer x = null;

    private static List<String> codeLines(List<String> readme) {
        List<String> lines = new ArrayList<>();
        boolean inside = false;
        for (String line : readme) {
            if (line.startsWith("```")) {
                inside = line.equals("```java");
            } else if (inside && !line.isBlank()) {
                lines.add(line.trim());
            }
        }
        return lines;
    }

    private static Method methodOf(String name) {
        for (Method m : StockDrawer.class.getDeclaredMethods()) {
            if (m.getName().equals(name) && Modifier.isPublic(m.getModifiers())) {
                return m;
            }
        }
        return null;
    }

    private static Object argument(Class<?> type, String text) {
        if (type == boolean.class && (text.equals("true") || text.equals("false"))) {
            return Boolean.valueOf(text);
        }
        return type == long.class ? (Object) Long.valueOf(text) : (Object) Integer.valueOf(text);
    }

    private static Object[] arguments(Method m, String text) {
        String[] texts = text.isEmpty() ? new String[0] : text.split(", ");
        Class<?>[] types = m.getParameterTypes();
        if (texts.length != types.length) {
            throw new IllegalArgumentException(texts.length + " arguments");
        }
        Object[] all = new Object[types.length];
        for (int i = 0; i < types.length; i++) {
            all[i] = argument(types[i], texts[i]);
        }
        return all;
    }

    private static String answer(Method m, Object[] arguments) throws IllegalAccessException {
        try {
            return String.valueOf(m.invoke(x, arguments));
        } catch (InvocationTargetException e) {
            return "throws " + e.getCause().getClass().getSimpleName();
        }
    }

    private static void makeCall(String line, Matcher call) throws IllegalAccessException {
        Method m = methodOf(call.group(1));
        if (m == null || x == null) {
            fault(line + " calls what there is not");
            return;
        }
        String got = answer(m, arguments(m, call.group(2)));
        shown.add(m.getName());
        if (got.startsWith("throws ")) {
            shown.add(m.getName() + " " + got);
        }
        // what stands behind a call without an answer is a remark alone
        if (m.getReturnType() != void.class) {
            dueText(line, got, call.group(3).split(":")[0].trim());
        }
    }

    private static void shownCallsAnswerSo(List<String> readme) throws IllegalAccessException {
        sentence("README.md: the calls that it shows answer what it says");
        for (String line : codeLines(readme)) {
            Matcher made = MADE.matcher(line);
            Matcher call = CALL.matcher(line);
            if (made.matches()) {
                x = new StockDrawer(Integer.parseInt(made.group(1)));
            } else if (call.matches()) {
                makeCall(line, call);
            } else {
                fault("neither a new object nor a call with its answer: " + line);
            }
        }
    }

    private static void wholeFaceIsShown() {
        sentence("README.md: how each method is used and refused");
        for (Method m : StockDrawer.class.getDeclaredMethods()) {
            if (!Modifier.isPublic(m.getModifiers())) {
                continue;
            }
            due(m.getName() + " is shown", shown.contains(m.getName()), true);
            for (Class<?> e : m.getExceptionTypes()) {
                String refusal = m.getName() + " throws " + e.getSimpleName();
                due(refusal + " is shown", shown.contains(refusal), true);
            }
        }
    }

    private static Set<String> testsThatThereAre() throws IOException {
        Set<String> names = new TreeSet<>();
        try (Stream<Path> files = Files.list(TESTS)) {
            files.map(f -> f.getFileName().toString())
                .filter(f -> f.endsWith("Test.java"))
                .forEach(f -> names.add(f.substring(0, f.length() - ".java".length())));
        }
        return names;
    }

    private static void testsAreTold(List<String> readme) throws IOException {
        sentence("README.md: how the tests are run, and which there are");
        Set<String> named = new TreeSet<>();
        Matcher test = NAMED_TEST.matcher(String.join("\n", readme));
        while (test.find()) {
            named.add(test.group(1));
        }
        dueText("the tests that it names", named.toString(), testsThatThereAre().toString());
        due("it tells the command", readme.contains("    .ci/run"), true);
        due("the command can be run", Files.isExecutable(Path.of(".ci", "run")), true);
    }

    public static void main(String[] args) throws IOException, IllegalAccessException {
        List<String> readme = Files.readAllLines(README);
        shownCallsAnswerSo(readme);
        wholeFaceIsShown();
        testsAreTold(readme);
        end();
    }
}
