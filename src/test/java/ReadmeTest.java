import java.lang.reflect.InvocationTargetException;
import java.lang.reflect.Method;
import java.lang.reflect.Modifier;
import java.nio.file.Files;
import java.nio.file.Path;
import java.util.ArrayList;
import java.util.List;
import java.util.Set;
import java.util.TreeSet;
import java.util.regex.Matcher;
import java.util.regex.Pattern;

/** The calls in README.md answer what stands behind them there, and they use all of the class. */
final class ReadmeTest {
    private static final String MADE = "Lotfolio folio = new Lotfolio();";
    private static final Pattern CALL =
        Pattern.compile("folio\\.(\\w+)\\(([^()]*)\\); +// (nothing|true|false|-?\\d+|throws \\w+)(: .+)?");

    private static final Set<String> used = new TreeSet<>();
    private static Lotfolio folio;

    private static Method named(String name) {
        for (Method one : Lotfolio.class.getDeclaredMethods()) {
            if (Modifier.isPublic(one.getModifiers()) && one.getName().equals(name)) {
                return one;
            }
        }
        return null;
    }

    private static Object value(Class<?> type, String text) {
        if (type == boolean.class && (text.equals("true") || text.equals("false"))) {
            return Boolean.valueOf(text);
        }
        return Integer.valueOf(text);
    }

    private static String answer(String name, String told) throws Exception {
        Method call = named(name);
        String[] texts = told.isEmpty() ? new String[0] : told.split(", ");
        if (call == null || call.getParameterCount() != texts.length) {
            return "no such call";
        }
        List<Object> values = new ArrayList<>();
        for (int i = 0; i < texts.length; i++) {
            values.add(value(call.getParameterTypes()[i], texts[i]));
        }
        used.add(name);
        try {
            Object came = call.invoke(folio, values.toArray());
            return came == null ? "nothing" : came.toString();
        } catch (InvocationTargetException e) {
            return "throws " + e.getCause().getClass().getSimpleName();
        }
    }

    private static void line(String line) throws Exception {
        Matcher call = CALL.matcher(line);
        if (line.equals(MADE)) {
            folio = new Lotfolio();
        } else if (call.matches()) {
            Check.same("README: " + call.group(1) + "(" + call.group(2) + ")",
                answer(call.group(1), call.group(2)), call.group(3));
        } else {
            Check.same("README has a line that is no call with an answer", line, "");
        }
    }

    private static void usesAllOfTheClass() {
        Set<String> all = new TreeSet<>();
        for (Method one : Lotfolio.class.getDeclaredMethods()) {
            if (Modifier.isPublic(one.getModifiers())) {
                all.add(one.getName());
            }
        }
        Check.same("README uses", used.toString(), all.toString());
    }

    private static void says(String page, String what) {
        Check.holds("README says " + what, page.contains(what));
    }

    public static void main(String[] args) throws Exception {
        Path readme = Path.of("README.md");
        boolean isCode = false;
        for (String line : Files.readAllLines(readme)) {
            if (line.startsWith("```")) {
                isCode = line.equals("```java");
                folio = null;
            } else if (isCode) {
                line(line);
            }
        }
        usesAllOfTheClass();
        String page = Files.readString(readme);
        says(page, "`.ci/run`");
        for (String name : Path.of("src/test/java").toFile().list()) {
            if (name.endsWith("Test.java")) {
                says(page, "`" + name.replace(".java", "") + "`");
            }
        }
        Check.end();
    }
}
