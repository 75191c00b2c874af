import java.io.IOException;
import java.nio.file.Files;
import java.nio.file.Path;
import java.util.ArrayList;
import java.util.HashMap;
import java.util.List;
import java.util.Map;
import java.util.Set;
import java.util.TreeSet;
import java.util.regex.Matcher;
import java.util.regex.Pattern;

/**
 * The rules of ../shared/LANGUAGE.md that can be seen in the class's text, which is laid out by steps of
 * four spaces. It is narrower than they are: it knows what the class uses, and another thing is a fault.
 */
public final class LanguageTest extends Check {
    private static final Path SOURCE = Path.of("src", "main", "java", "StockDrawer.java");
    private static final String EXCEPTION =
        "(IllegalStateException|IllegalArgumentException|NoSuchElementException)";
    private static final Pattern METHOD =
        Pattern.compile("( {4}| {8})(?=\\w)[\\w ]*?(\\w+)\\(([^()]*)\\)[\\w ,]* \\{");
    private static final int MOST_OPEN_CALLS = 8;

    /** Name, parameters and lines of a method or constructor. */
    private record Body(String name, String parameters, List<String> lines) {
        boolean isConstructor() {
            return Character.isUpperCase(name.charAt(0));
        }
    }

    /** Without what remarks and texts say, which could look like code. */
    private static List<String> codeLines() throws IOException {
        List<String> lines = new ArrayList<>();
        for (String line : Files.readAllLines(SOURCE)) {
            String text = line.strip();
            if (!text.startsWith("/*") && !text.startsWith("*") && !text.startsWith("//")) {
                lines.add(line.replaceAll("\"[^\"]*\"", "\"\""));
            }
        }
        return lines;
    }

    private static List<Body> bodies(List<String> lines) {
        List<Body> found = new ArrayList<>();
        for (int i = 0; i < lines.size(); i++) {
            Matcher m = METHOD.matcher(lines.get(i));
            if (m.matches()) {
                int end = lines.subList(i, lines.size()).indexOf(m.group(1) + "}");
                found.add(new Body(m.group(2), m.group(3), lines.subList(i, i + end + 1)));
            }
        }
        return found;
    }

    private static int membersOf(Class<?> c) {
        return c.getDeclaredMethods().length + c.getDeclaredConstructors().length;
    }

    private static void everyMethodIsFound(List<Body> bodies) {
        sentence("the layout of the class's text");
        int members = membersOf(StockDrawer.class);
        for (Class<?> inside : StockDrawer.class.getDeclaredClasses()) {
            members += membersOf(inside);
        }
        due("methods and constructors found in it", bodies.size(), members);
    }

    private static List<String> all(String pattern, String text) {
        List<String> found = new ArrayList<>();
        Matcher m = Pattern.compile(pattern).matcher(text);
        while (m.find()) {
            found.add(m.group());
        }
        return found;
    }

    private static void none(String pattern, String text) {
        dueText("all of " + pattern, all(pattern, text).toString(), "[]");
    }

    private static void oneFileOneClass(String text) {
        sentence("rules 1, 2 and 11: one public class, few static ones inside it");
        dueText("imports and packages", all("(?m)^(import|package) .*", text).toString(),
            "[import java.util.NoSuchElementException;]");
        due("public classes", all("public final class \\w+", text).size(), 1);
        due("at most twelve classes", all("\\b(class|interface|enum|record) \\w+", text).size() <= 12, true);
        due("classes inside, private and static", all("(?m)^    private static final class \\w+ \\{$", text).size() + 1,
            all("\\b(class|interface|enum|record) \\w+", text).size());
        none("->|::", text);
    }

    private static void librarySmall(String text) {
        sentence("rules 3, 4, 12 and 13: no library but what the rules list");
        dueText("calls of the library", new TreeSet<>(all("\\b[A-Z][a-z]\\w*\\.\\w+", text)).toString(), "[Math.max]");
        none("\\b(double|float|char|byte|short|Object|String|var)\\b", text);
        String own = "Source|Drawing|Rest|Story";
        none("\\bnew (?!((" + own + "|" + EXCEPTION + ")\\(|(int|boolean)\\[))[^;]*", text);
    }

    private static void staticsConstant(String text) {
        sentence("rule 5: static fields are constants");
        none("\\bstatic (?!final (int|long) [A-Z_]+ = |final class ).*", text);
    }

    private static void exceptionsThrown(String text, List<Body> bodies) {
        sentence("rule 6: exceptions are thrown with a written text, and none is caught");
        due("throws of the listed ones", all("\\bthrow new " + EXCEPTION + "\\(\"\"\\);", text).size(),
            all("\\bthrow\\b", text).size());
        none("\\b(try|catch|finally|synchronized|assert|instanceof|equals|hashCode|toString)\\b", text);
        for (Body b : bodies) {
            boolean throwing = String.join("\n", b.lines()).contains("throw new");
            due("a throw in constructor " + b.name(), b.isConstructor() && throwing, false);
        }
    }

    private static void loopsHaveACounter(String text) {
        sentence("rule 9: every loop is a counter against a bound");
        none("\\b(while|do)\\b", text);
        due("counted loops", all("for \\(int (\\w+) = [^;]+; \\1 (<|>=) [^;]+; \\1(\\+\\+|--)\\) \\{", text).size(),
            all("\\bfor\\b", text).size());
    }

    private static void methodsShort(List<Body> bodies) {
        sentence("rule 11: short methods of few parameters");
        for (Body b : bodies) {
            due(b.name() + ", sixty lines at most", b.lines().size() <= 60, true);
            due(b.name() + ", seven parameters at most", b.parameters().split(",").length <= 7, true);
        }
    }

    private static Map<String, Set<String>> callsOf(List<Body> bodies) {
        Map<String, Set<String>> calls = new HashMap<>();
        for (Body b : bodies) {
            due(b.name() + " is the name of one method", calls.containsKey(b.name()), false);
            String inside = String.join("\n", b.lines().subList(1, b.lines().size()));
            calls.put(b.name(), new TreeSet<>(all("\\b\\w+(?=\\()", inside)));
        }
        return calls;
    }

    /** How many calls stand open at once at the most; beyond the limit it stops, so recursion ends too. */
    private static int openCalls(String name, Map<String, Set<String>> calls, int above) {
        int deepest = above + 1;
        if (above > MOST_OPEN_CALLS) {
            return deepest;
        }
        for (String called : calls.get(name)) {
            if (calls.containsKey(called)) {
                deepest = Math.max(deepest, openCalls(called, calls, above + 1));
            }
        }
        return deepest;
    }

    private static void callsShallow(List<Body> bodies) {
        sentence("rules 8 and 11: no recursion, calls at most eight deep");
        Map<String, Set<String>> calls = callsOf(bodies);
        for (String name : calls.keySet()) {
            due(name + ", eight calls at most", openCalls(name, calls, 0) <= MOST_OPEN_CALLS, true);
        }
    }

    public static void main(String[] args) throws IOException {
        List<String> lines = codeLines();
        String text = String.join("\n", lines);
        List<Body> bodies = bodies(lines);
        everyMethodIsFound(bodies);
        oneFileOneClass(text);
        librarySmall(text);
        staticsConstant(text);
        exceptionsThrown(text, bodies);
        loopsHaveACounter(text);
        methodsShort(bodies);
        callsShallow(bodies);
        end();
    }
}
