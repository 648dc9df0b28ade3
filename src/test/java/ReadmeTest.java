import java.io.IOException;
import java.lang.reflect.InvocationTargetException;
import java.lang.reflect.Method;
import java.lang.reflect.Modifier;
import java.net.URL;
import java.net.URLClassLoader;
import java.nio.file.Files;
import java.nio.file.Path;
import java.util.ArrayList;
import java.util.List;
import java.util.Map;
import java.util.TreeMap;
import java.util.function.BiConsumer;
import java.util.regex.Matcher;
import java.util.regex.Pattern;
import javax.tools.ToolProvider;

/**
 * README.md: that what its example tells is so, and that it tells each call of the face with its exceptions.
 * The example is compiled as it stands there, so that it can't drift from the class.
 */
public final class ReadmeTest {
    private static final Due due = new Due("ReadmeTest");
    private static final Pattern ANSWER =
        Pattern.compile("(?:int|boolean) (\\w+) = .*;\\s+// = (-?\\d+|true|false)(:.*)?");
    private static final Pattern REFUSAL = Pattern.compile("(\\S.*;)\\s+// throws (\\w+)");
    private static final Pattern TOLD = Pattern.compile("\\| `([^`]+)` \\| .+ \\| (.+) \\|");

    public static void main(String[] args) throws Exception {
        List<String> lines = Files.readAllLines(Path.of("README.md"));
        example(block(lines, "```java"));
        calls(lines);
        readings();
        due.end();
    }

    private static List<String> block(List<String> lines, String start) {
        int first = lines.indexOf(start) + 1;
        int size = lines.subList(first, lines.size()).indexOf("```");
        due.yes("README.md has a block " + start, first > 0 && size > 0);
        return first > 0 && size > 0 ? lines.subList(first, first + size) : List.of();
    }

    private static void example(List<String> block) throws Exception {
        Map<String, String> wants = new TreeMap<>();
        List<String> source = new ArrayList<>();
        source.add("public final class ReadmeExample {");
        source.add("public static void show(java.util.function.BiConsumer<String, String> seen) {");
        for (String line : block) {
            source.add(watched(line, wants));
        }
        source.add("}}");
        due.yes("the example tells answers", wants.size() > 10);
        Map<String, String> got = new TreeMap<>();
        run(source, got::put);
        for (String line : wants.keySet()) {
            due.yes("[" + line + "] saw " + got.get(line), wants.get(line).equals(got.get(line)));
        }
    }

    /** The line, and behind it code that reports what its comment tells about. */
    private static String watched(String line, Map<String, String> wants) {
        String quoted = "\"" + line.replace("\\", "\\\\").replace("\"", "\\\"") + "\"";
        Matcher answer = ANSWER.matcher(line);
        if (answer.matches()) {
            wants.put(line, answer.group(2));
            return line + "\nseen.accept(" + quoted + ", \"\" + " + answer.group(1) + ");";
        }
        Matcher refusal = REFUSAL.matcher(line);
        if (refusal.matches()) {
            wants.put(line, refusal.group(2));
            return "try {" + refusal.group(1) + "} catch (RuntimeException e) {"
                + "seen.accept(" + quoted + ", e.getClass().getSimpleName()); }";
        }
        due.no("a comment of another form: " + line, line.contains("// =") || line.contains("// throws"));
        return line;
    }

    private static void run(List<String> source, BiConsumer<String, String> seen) throws Exception {
        Path made = Files.createTempDirectory("readme");
        Path file = made.resolve("ReadmeExample.java");
        Path compiled = made.resolve("ReadmeExample.class");
        try {
            Files.write(file, source);
            String path = System.getProperty("java.class.path");
            int bad = ToolProvider.getSystemJavaCompiler()
                .run(null, null, null, "-proc:none", "-cp", path, "-d", made.toString(), file.toString());
            due.is("compiling the example", bad, 0);
            if (bad == 0) {
                runCompiled(made, seen);
            }
        } finally {
            deleteAll(file, compiled, made);
        }
    }

    private static void runCompiled(Path made, BiConsumer<String, String> seen) throws Exception {
        try (URLClassLoader loader = new URLClassLoader(new URL[] {made.toUri().toURL()})) {
            loader.loadClass("ReadmeExample").getMethod("show", BiConsumer.class).invoke(null, seen);
        } catch (InvocationTargetException e) {
            due.yes("the example threw " + e.getCause(), false);
        }
    }

    private static void deleteAll(Path... files) throws IOException {
        for (Path file : files) {
            Files.deleteIfExists(file);
        }
    }

    /** Each public method stands in the table with its parameters' types and, in their order, its exceptions. */
    private static void calls(List<String> lines) {
        Map<String, String> told = new TreeMap<>();
        for (String line : lines) {
            Matcher row = TOLD.matcher(line);
            if (row.matches()) {
                told.put(row.group(1).replaceAll("(int|boolean) \\w+(?=[,)])", "$1"), row.group(2));
            }
        }
        int methods = 0;
        for (Method m : RouterPaths.class.getDeclaredMethods()) {
            if (Modifier.isPublic(m.getModifiers())) {
                methods++;
                isTold(m, told);
            }
        }
        due.is("calls that are told", told.size(), methods);
        due.yes("the constructor is told", String.join(" ", lines).contains("`new RouterPaths(side)`"));
        due.yes("NONE is told", lines.toString().contains("`RouterPaths.NONE` is " + RouterPaths.NONE));
    }

    private static void isTold(Method m, Map<String, String> told) {
        List<String> types = new ArrayList<>();
        for (Class<?> type : m.getParameterTypes()) {
            types.add(type.getName());
        }
        String face = m.getReturnType() + " " + m.getName() + "(" + String.join(", ", types) + ")";
        String refusals = told.getOrDefault(face, "not told").replace("as `target`", told.getOrDefault("void target(int, int, int, int, int)", ""));
        List<String> named = new ArrayList<>();
        Matcher name = Pattern.compile("\\w+Exception").matcher(refusals);
        while (name.find()) {
            named.add(name.group());
        }
        List<String> thrown = new ArrayList<>();
        for (Class<?> type : m.getExceptionTypes()) {
            thrown.add(type.getSimpleName());
        }
        due.yes(face + " throws " + thrown + ", told is " + refusals, named.equals(thrown) && (named.size() > 0 || refusals.equals("nothing")));
    }

    /** The readings that the file lists where the document is short. */
    private static void readings() {
        due.is("a fourth digit", Due.reading(new RouterPaths(8), "G1Z1000;"), -1 - 6);
        due.is("spaces behind the last ;", Due.reading(new RouterPaths(8), "T0;  "), -1 - 5);
        due.is("spaces behind the 32nd", Due.reading(new RouterPaths(8), "T0;".repeat(32) + "  "), -1 - 96);
        RouterPaths kept = new RouterPaths(8);
        kept.keep(0, 0, 7, 7, true);
        due.is("G0 into a kept cell", Due.running(kept, "G0Z99;"), 1);
    }
}
