import java.io.IOException;
import java.lang.reflect.Method;
import java.lang.reflect.Modifier;
import java.net.URL;
import java.net.URLClassLoader;
import java.nio.file.Files;
import java.nio.file.Path;
import java.util.ArrayList;
import java.util.Comparator;
import java.util.List;
import java.util.Set;
import java.util.TreeSet;
import java.util.regex.Matcher;
import java.util.regex.Pattern;
import java.util.stream.Stream;
import javax.tools.ToolProvider;

/** README.md: its examples answer as it says, and its table has each call with the refusals that the document names. */
public final class ReadmeTest {
    private static final Path DOCUMENT = Path.of("../shared/DOC.md");
    private static final Pattern EXAMPLE = Pattern.compile("(?s)```java\n(.*?)```");
    /** A statement, and what it is said to answer behind its sign for a comment. */
    private static final Pattern ANSWERED =
            Pattern.compile("^(?:int (\\w+) = )?(market\\.(\\w+)\\(.*\\));\\s*// (-?\\d+)(?::.*)?$");
    private static final Pattern REFUSAL =
            Pattern.compile("\\b(?:BAD|NOT|FULL|STATE|VOID|Long\\.MIN_VALUE)\\b|-(?:1[1-4]|100)\\b");

    private static int wrong = 0, checked = 0;

    private ReadmeTest() { }

    private static void check(boolean kept, String what) {
        checked++;
        if (!kept) {
            wrong++;
            System.out.println("README.md: " + what);
        }
    }

    /** Called by the examples. */
    public static void due(String call, long got, long want) {
        check(got == want, call + " answered " + got + ", it says " + want);
    }

    public static void main(String[] args) throws IOException, ReflectiveOperationException {
        String page = Files.readString(Path.of("README.md"));
        Set<String> calls = new TreeSet<>();
        for (Method m : ThirdAfter.class.getDeclaredMethods()) {
            if (Modifier.isPublic(m.getModifiers())) {
                calls.add(m.getName());
            }
        }
        examples(page);
        table(page, calls, Files.exists(DOCUMENT) ? Files.readString(DOCUMENT) : "");
        files(page);
        System.out.println(checked + " checks of README.md, " + wrong + " of them wrong");
        System.exit(wrong == 0 ? 0 : 1);
    }

    /** Each example becomes a class of its own, in which what is said is asked. */
    private static void examples(String page) throws IOException, ReflectiveOperationException {
        Path made = Files.createTempDirectory("readme");
        try {
            Matcher example = EXAMPLE.matcher(page);
            int n = 0;
            while (example.find()) {
                run(made, "Example" + n, example.group(1));
                n++;
            }
            check(n > 0, "has no example");
        } finally {
            remove(made);
        }
    }

    private static void run(Path made, String name, String text) throws IOException, ReflectiveOperationException {
        StringBuilder source = new StringBuilder("public class " + name + " {\n    public static void main(String[] a) {\n");
        int answered = 0;
        for (String line : text.split("\n")) {
            Matcher m = ANSWERED.matcher(line.trim());
            if (!m.matches()) {
                source.append(line).append('\n');
                continue;
            }
            answered++;
            String got = m.group(2);
            if (m.group(1) != null) {
                source.append("int ").append(m.group(1)).append(" = ").append(got).append(";\n");
                got = m.group(1);
            }
            source.append("ReadmeTest.due(\"").append(m.group(2).replace("\"", "\\\"")).append("\", ").append(got)
                    .append(", ").append(m.group(4)).append("L);\n");
        }
        check(answered > 0, name + " says no answer");
        Path file = made.resolve(name + ".java");
        Files.writeString(file, source.append("    }\n}\n"));
        int refused = ToolProvider.getSystemJavaCompiler().run(null, null, null, "-cp",
                System.getProperty("java.class.path"), "-d", made.toString(), file.toString());
        check(refused == 0, name + " does not compile");
        if (refused == 0) {
            try (URLClassLoader loader = new URLClassLoader(new URL[] {made.toUri().toURL()})) {
                loader.loadClass(name).getMethod("main", String[].class).invoke(null, (Object) new String[0]);
            }
        }
    }

    private static void remove(Path directory) throws IOException {
        List<Path> all = new ArrayList<>();
        try (Stream<Path> found = Files.walk(directory)) {
            found.sorted(Comparator.reverseOrder()).forEach(all::add);
        }
        for (Path p : all) {
            Files.delete(p);
        }
    }

    /** One line of the table for each call, whose last column has the refusals that its promise has. */
    private static void table(String page, Set<String> calls, String document) {
        Set<String> told = new TreeSet<>();
        Matcher row = Pattern.compile("(?m)^\\| `(\\w+)\\(.*\\)` \\|.*\\|(.*)\\|$").matcher(page);
        while (row.find()) {
            String call = row.group(1);
            check(told.add(call), "has " + call + "() twice");
            Matcher promise = Pattern.compile("(?s)## Promise \\d+: " + call + "\n(.*?)(?=\n## )").matcher(document);
            if (promise.find()) {
                Set<String> named = refusals(promise.group(1)), said = refusals(row.group(2));
                check(said.equals(named), "says " + said + " of " + call + "(), the document " + named);
            } else {
                check(document.isEmpty(), "has " + call + "(), of which there is no promise");
            }
        }
        check(told.equals(calls), "its table has the calls " + told);
    }

    private static Set<String> refusals(String text) {
        Set<String> found = new TreeSet<>();
        Matcher m = REFUSAL.matcher(text.replace("-11 to -13", "-11, -12, -13"));
        while (m.find()) {
            found.add(m.group());
        }
        return found;
    }

    /** All tests are told, and no others. */
    private static void files(String page) throws IOException {
        Set<String> there = new TreeSet<>(), told = new TreeSet<>();
        try (Stream<Path> found = Files.list(Path.of("src/test/java"))) {
            found.map(p -> p.getFileName().toString()).filter(p -> p.endsWith("Test.java"))
                    .forEach(p -> there.add(p.replace(".java", "")));
        }
        Matcher m = Pattern.compile("(?m)^- `(\\w+Test)`:").matcher(page);
        while (m.find()) {
            told.add(m.group(1));
        }
        check(told.equals(there), "tells of the tests " + told + ", there are " + there);
    }
}
