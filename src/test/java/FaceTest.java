import java.lang.reflect.Constructor;
import java.lang.reflect.Executable;
import java.lang.reflect.Field;
import java.lang.reflect.Method;
import java.lang.reflect.Modifier;
import java.nio.charset.StandardCharsets;
import java.nio.file.Files;
import java.nio.file.Path;
import java.util.ArrayList;
import java.util.Arrays;
import java.util.List;
import java.util.Set;
import java.util.TreeSet;
import java.util.regex.Matcher;
import java.util.regex.Pattern;

/** The public face is that of the document, and some rules of the language that can be looked at. */
final class FaceTest {
    private static final Path DOC = Path.of("../shared/DOC.md");
    private static final Path SOURCE = Path.of("src/main/java/Lotfolio.java");

    /** The lines of the document's face, without names of parameters. */
    private static Set<String> told() throws Exception {
        Set<String> found = new TreeSet<>();
        boolean inFace = false;
        for (String line : Files.readAllLines(DOC)) {
            inFace |= line.equals("public final class Lotfolio {");
            if (line.equals("}")) {
                break;
            }
            if (inFace && line.startsWith("    public ")) {
                String text = line.trim().replace("java.time.", "").replace("java.util.", "");
                int open = text.indexOf('(');
                if (open > 0) {
                    int close = text.indexOf(')');
                    List<String> types = new ArrayList<>();
                    for (String parameter : text.substring(open + 1, close).split(",")) {
                        types.add(parameter.trim().split(" ")[0]);
                    }
                    text = text.substring(0, open + 1) + String.join(",", types) + text.substring(close);
                }
                found.add(text.replace(", ", ","));
            }
        }
        return found;
    }

    private static String signature(String start, Executable one) {
        List<String> types = new ArrayList<>();
        Arrays.stream(one.getParameterTypes()).forEach(t -> types.add(t.getSimpleName()));
        List<String> thrown = new ArrayList<>();
        Arrays.stream(one.getExceptionTypes()).forEach(t -> thrown.add(t.getSimpleName()));
        return start + "(" + String.join(",", types) + ")"
            + (thrown.isEmpty() ? "" : " throws " + String.join(",", thrown)) + ";";
    }

    private static Set<String> built() throws Exception {
        Set<String> found = new TreeSet<>();
        for (Constructor<?> one : Lotfolio.class.getDeclaredConstructors()) {
            found.add(signature(Modifier.toString(one.getModifiers()) + " Lotfolio", one));
        }
        for (Method one : Lotfolio.class.getDeclaredMethods()) {
            if (!Modifier.isPrivate(one.getModifiers())) {
                found.add(signature(Modifier.toString(one.getModifiers()) + " "
                    + one.getReturnType().getSimpleName() + " " + one.getName(), one));
            }
        }
        for (Field one : Lotfolio.class.getDeclaredFields()) {
            if (!Modifier.isPrivate(one.getModifiers())) {
                found.add(Modifier.toString(one.getModifiers()) + " " + one.getType().getSimpleName() + " "
                    + one.getName() + " = " + one.get(null) + ";");
            }
        }
        return found;
    }

    private static void namesAreApart() {
        Set<String> open = new TreeSet<>();
        for (Method one : Lotfolio.class.getMethods()) {
            open.add(one.getName());
        }
        List<Class<?>> all = new ArrayList<>(List.of(Lotfolio.class.getDeclaredClasses()));
        Check.holds("at most twelve classes", all.size() < 12);
        for (Class<?> one : all) {
            Check.holds(one + " is static", Modifier.isStatic(one.getModifiers()));
            for (Method method : one.getDeclaredMethods()) {
                Check.holds(one + " " + method.getName(), !open.contains(method.getName()));
            }
            Check.holds(one + " has few fields", Arrays.stream(one.getDeclaredFields())
                .filter(f -> !Modifier.isStatic(f.getModifiers())).count() <= 20);
        }
        for (Method method : Lotfolio.class.getDeclaredMethods()) {
            if (Modifier.isPrivate(method.getModifiers())) {
                Check.holds(method.getName(), !open.contains(method.getName()));
            }
            Check.holds(method.getName() + " takes few", method.getParameterCount() <= 7);
        }
        for (Field field : Lotfolio.class.getDeclaredFields()) {
            int is = field.getModifiers();
            Check.holds(field.getName(), !Modifier.isStatic(is) || Modifier.isFinal(is));
        }
    }

    private static String found(String pattern, String source) {
        Set<String> all = new TreeSet<>();
        Matcher matcher = Pattern.compile(pattern).matcher(source);
        while (matcher.find()) {
            all.add(matcher.group(1));
        }
        return all.toString();
    }

    private static void sourceIsPlain() throws Exception {
        String source = new String(Files.readAllBytes(SOURCE), StandardCharsets.ISO_8859_1);
        String[] barred = {"->", "::", "catch", "finally", "synchronized", "assert ", "BigInteger", "TreeMap",
            "LocalDate", "Exact(", "double", "float", "getMessage", "hashCode", "static {"};
        for (String word : barred) {
            Check.holds("no " + word, !source.contains(word));
        }
        Check.same("imports", found("import ([^;]+);", source),
            "[java.time.DateTimeException, java.util.Arrays, java.util.NoSuchElementException]");
        Check.same("all that is thrown", found("throw ([^(]+)\\(", source), "[new ArithmeticException, "
            + "new DateTimeException, new IllegalArgumentException, new IllegalStateException, "
            + "new IndexOutOfBoundsException, new NoSuchElementException]");
        Check.holds("plain signs", source.chars().allMatch(c -> c == '\n' || c >= 32 && c < 127));
        int length = 0;
        int longest = 0;
        for (String line : source.split("\n")) {
            length = line.matches("( {4}| {8})[}@a-zA-Z].*") ? 0 : length + 1;
            longest = Math.max(longest, length);
        }
        Check.holds("methods are short", longest <= 60);
    }

    public static void main(String[] args) throws Exception {
        Check.same("the face", built().toString(), told().toString());
        Check.holds("final", Modifier.isFinal(Lotfolio.class.getModifiers()));
        namesAreApart();
        sourceIsPlain();
        Check.end();
    }
}
