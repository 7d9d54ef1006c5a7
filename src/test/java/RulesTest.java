import java.io.IOException;
import java.lang.management.ManagementFactory;
import java.lang.reflect.Constructor;
import java.lang.reflect.Field;
import java.lang.reflect.Method;
import java.lang.reflect.Modifier;
import java.nio.file.Files;
import java.nio.file.Path;
import java.util.ArrayList;
import java.util.Arrays;
import java.util.List;
import java.util.Set;
import java.util.TreeSet;
import java.util.regex.Matcher;
import java.util.regex.Pattern;

/** The document's face, what of ../shared/LANGUAGE.md can be read off the class, and what calls make. */
public final class RulesTest {
    private static final String[] FACE = {
        "int buyer(int, int)", "int buyers(int, int, int)", "int mend(int, int, int)", "int of(int, int)",
        "int feed(int)", "int law()", "int book(int, int)", "int market(int, int, int)", "int coming(int, int, int)",
        "int later(int, int, int)", "int onceMore(int, int, int)", "int hired(int, int, int, int)",
        "int latch(int, int, int)", "int order(int, int, int)", "int flow(int, int)", "int round(int, int)",
        "int judge(int)", "int fits(int, int, int)", "int byTurns(int, int, int)", "int drawn(int, int, int)",
        "int comes(int)", "int evening()", "int gives(int, int, int)", "int led(int)", "int image()", "int back()",
        "int undo()", "int redo()", "int body(int)", "int act(int, int, int)", "int trace(int)", "int keep(int, int)",
        "int row(int, int, int)", "int put(int, int, long)", "long element(int, int)",
        "int shift(int, int, int, int, int)", "int taken(int, int)", "int count(int)"};

    private static int wrong = 0;

    private RulesTest() { }

    private static void rule(boolean kept, String text) {
        if (!kept) {
            wrong++;
            System.out.println("not kept: " + text);
        }
    }

    public static void main(String[] args) throws IOException {
        face();
        shape();
        source(Files.readString(Path.of("src/main/java/ThirdAfter.java")));
        room();
        System.out.println(wrong == 0 ? "all rules that are looked at are kept" : wrong + " rules are not kept");
        System.exit(wrong == 0 ? 0 : 1);
    }

    private static String typed(Method m) {
        List<String> types = new ArrayList<>();
        for (Class<?> c : m.getParameterTypes()) {
            types.add(c.getName());
        }
        return m.getReturnType() + " " + m.getName() + "(" + String.join(", ", types) + ")";
    }

    private static void face() {
        Set<String> open = new TreeSet<>(), names = new TreeSet<>(), hidden = new TreeSet<>();
        for (Method m : ThirdAfter.class.getDeclaredMethods()) {
            if (Modifier.isPrivate(m.getModifiers())) {
                hidden.add(m.getName());
            } else {
                rule(Modifier.isPublic(m.getModifiers()) && !Modifier.isStatic(m.getModifiers()), "rule 1: " + m);
                open.add(typed(m));
                names.add(m.getName());
            }
        }
        rule(open.equals(new TreeSet<>(Arrays.asList(FACE))), "the face's methods: " + open);
        hidden.retainAll(names);
        rule(hidden.isEmpty(), "rule 1: private methods that bear a public one's name: " + hidden);
        Set<String> constants = new TreeSet<>();
        for (Field f : ThirdAfter.class.getDeclaredFields()) {
            if (!Modifier.isPrivate(f.getModifiers())) {
                constants.add(Modifier.toString(f.getModifiers()) + " " + f.getType() + " " + f.getName());
            }
        }
        rule(constants.equals(new TreeSet<>(List.of("public static final int BAD", "public static final int NOT",
                "public static final int FULL", "public static final int STATE", "public static final int VOID"))),
                "the face's constants: " + constants);
        Constructor<?>[] made = ThirdAfter.class.getDeclaredConstructors();
        rule(made.length == 1 && made[0].getParameterCount() == 0 && Modifier.isPublic(made[0].getModifiers()),
                "the face's constructor");
        rule(ThirdAfter.class.getModifiers() == (Modifier.PUBLIC | Modifier.FINAL), "public and final");
    }

    private static void shape() {
        List<Class<?>> classes = new ArrayList<>(List.of(ThirdAfter.class.getDeclaredClasses()));
        for (Class<?> c : classes) {
            rule(Modifier.isStatic(c.getModifiers()) && !Modifier.isPublic(c.getModifiers())
                    && !Modifier.isProtected(c.getModifiers()), "rule 2: " + c);
            rule(c.getDeclaredClasses().length == 0, "classes inside " + c);
        }
        classes.add(ThirdAfter.class);
        rule(classes.size() <= 12, "rule 11: twelve classes");
        Set<Class<?>> still = Set.of(int.class, long.class, boolean.class, char.class, String.class, int[].class,
                long[].class, char[].class, byte[].class);
        for (Class<?> c : classes) {
            int fields = 0;
            for (Field f : c.getDeclaredFields()) {
                if (!Modifier.isStatic(f.getModifiers())) {
                    fields++;
                } else {
                    rule(Modifier.isFinal(f.getModifiers()) && still.contains(f.getType()), "rule 5: " + f);
                }
            }
            rule(fields <= 20, "rule 11: twenty fields in " + c);
            for (Method m : c.getDeclaredMethods()) {
                rule(m.getParameterCount() <= 7, "rule 11: seven parameters of " + m);
            }
        }
    }

    private static void source(String text) {
        rule(text.chars().allMatch(c -> c == '\n' || c >= 32 && c < 127), "signs of the source");
        String bare = text.replaceAll("(?s)/\\*.*?\\*/", "").replaceAll("//[^\n]*", "")
                .replaceAll("'(\\\\.|[^'\\\\])'", "'c'");
        bare = bare.replaceAll("\"(\\\\.|[^\"\\\\])*\"", "\"s\"");
        rule(!Pattern.compile("\"\\s*\\+|\\+\\s*\"").matcher(bare).find(), "rule 10: texts joined by +");
        for (String word : List.of("throw", "throws", "try", "catch", "finally", "synchronized", "assert", "package",
                "import", "protected", "volatile", "native", "instanceof", "hashCode", "toString", "Object", "Thread",
                "Runtime", "Random", "Exact", "yield", "var")) {
            rule(!Pattern.compile("\\b" + word + "\\b").matcher(bare).find(), "the word " + word);
        }
        rule(!bare.contains("->") && !bare.contains("::"), "rule 2: lambdas, method references");
        rule(!Pattern.compile("\\bstatic\\s*\\{").matcher(bare).find(), "rule 5: static blocks");
        rule(!Pattern.compile("\\bwhile\\s*\\(\\s*true|for\\s*\\(\\s*;\\s*;").matcher(bare).find(), "rule 9");
        Matcher called = Pattern.compile("\\b(System|Math|Integer|Long|Arrays)\\.(\\w+)").matcher(bare);
        while (called.find()) {
            rule(Set.of("System.arraycopy", "Math.min", "Math.max", "Integer.bitCount").contains(called.group()),
                    "rule 4: " + called.group());
        }
        lengths(text);
    }

    /** A method begins with a line that opens a block behind a ), and ends with } as far in. */
    private static void lengths(String text) {
        String[] lines = text.split("\n");
        Pattern begins = Pattern.compile("^( {4}| {8})(?! )(?!if|for|while|switch|else|return|\\})\\S.*\\) \\{$");
        for (int i = 0; i < lines.length; i++) {
            Matcher m = begins.matcher(lines[i]);
            if (m.find()) {
                String end = m.group(1) + "}";
                int j = i;
                while (j < lines.length && !lines[j].equals(end)) {
                    j++;
                }
                rule(j - i < 60, "rule 11: sixty lines of " + lines[i].trim());
            }
        }
    }

    /** What is made counts for all calls together: a new object makes little, and calls nearly nothing. */
    private static void room() {
        com.sun.management.ThreadMXBean made =
                (com.sun.management.ThreadMXBean) ManagementFactory.getThreadMXBean();
        long id = Thread.currentThread().getId();
        ThirdAfter[] x = new ThirdAfter[20];
        long before = made.getThreadAllocatedBytes(id);
        for (int i = 0; i < x.length; i++) {
            x[i] = new ThirdAfter();
        }
        long each = (made.getThreadAllocatedBytes(id) - before) / x.length;
        rule(each > 0 && each < 40_000, "a new object takes " + each + " bytes");
        dearest(x[0]);
        before = made.getThreadAllocatedBytes(id);
        for (int i = 1; i < x.length; i++) {
            dearest(x[i]);
        }
        long calls = (made.getThreadAllocatedBytes(id) - before) / (x.length - 1);
        rule(calls < 10_000, "all calls of a run take " + calls + " bytes");
    }

    private static void dearest(ThirdAfter x) {
        for (int i = 0; i < 8; i++) {
            x.buyer(i, i);
            x.body(i);
        }
        for (int c : new int[] {'(', 'w', '+', 'p', '/', '9', '|', 'h', ')', '*', 'n', '-', 'o', '?', 'w', ';', 'd'}) {
            x.feed(c);
        }
        x.law();
        for (int i = 0; i < 20; i++) {
            x.row(i % 2, 0, 19);
            x.row(2, 3, 60);
            x.put(0, i % 19, i % 8);
            x.later(0, 20, 1);
            x.onceMore(0, 1, 0);
            x.hired(0, 3, 1, 0);
            x.latch(0, 1, 0);
            x.order(31, 1, 0);
            x.round(0, 0);
            x.fits(1, 2, 2);
            x.byTurns(1, 5, 0);
            x.drawn(i, 306012, -1);
            x.comes(i % 8);
            x.mend(i % 8, 0, i);
            x.undo();
            x.image();
            x.back();
            x.act(7, 3, i);
            x.shift(2, 0, 2, 1, 59);
        }
    }
}
