import java.lang.reflect.InvocationTargetException;
import java.lang.reflect.Method;
import java.util.Arrays;
import java.util.Comparator;
import java.util.Set;
import java.util.function.Supplier;

/** What the cases of BoundaryTest ask by, and how they are run. */
final class Cases {
    static final int BAD = -1, NOT = -2, FULL = -3, STATE = -5, VOID = -2000000000;
    static final int MISSING = -11, OTHER_KIND = -12, NO_PLACE = -13, SIZE_BELOW_NONE = -14;
    static final int LOW = Integer.MIN_VALUE, HIGH = Integer.MAX_VALUE;

    private static String running = "";
    private static boolean kept = true;
    private static int cases = 0, broken = 0;

    private Cases() { }

    interface Call {
        long of(ThirdAfter x);
    }

    interface CallWith {
        long of(ThirdAfter x, int v);
    }

    static void due(String call, long got, long want) {
        if (got != want) {
            wrong(call + " answered " + got + ", due is " + want);
        }
    }

    private static void wrong(String what) {
        kept = false;
        System.out.println(running + ": " + what);
    }

    /**
     * A call that is refused: it answers as told, and whatever is asked behind it is answered as by an object that
     * was not asked it.
     */
    static void refused(Supplier<ThirdAfter> made, String call, Call asked, long want) {
        ThirdAfter refusing = made.get();
        due(call, asked.of(refusing), want);
        String[] got = Probe.all(refusing).split("\n");
        String[] spared = Probe.all(made.get()).split("\n");
        for (int i = 0; i < Math.max(got.length, spared.length); i++) {
            if (i >= got.length || i >= spared.length || !got[i].equals(spared[i])) {
                wrong("behind a refused " + call + " " + (i < got.length ? got[i] : "nothing") + ", without it "
                        + (i < spared.length ? spared[i] : "nothing"));
                return;
            }
        }
    }

    static void refused(String call, Call asked, long want) {
        refused(Markets::rich, call, asked, want);
    }

    /** A number of a call is refused just below the least and just above the most that it may be, and far off. */
    static void refusedBeyond(Supplier<ThirdAfter> made, String call, int least, int most, CallWith asked, long want) {
        for (int v : new int[] {least - 1, most + 1, LOW, HIGH}) {
            refused(made, call + " of " + v, x -> asked.of(x, v), want);
        }
    }

    static void refusedBeyond(String call, int least, int most, CallWith asked, long want) {
        refusedBeyond(Markets::rich, call, least, most, asked, want);
    }

    /** SHELF 3 of a rich market holds nothing, 4 a LATCH, 2 shorts, 5 ints; longs and booleans come in 3's stead. */
    static void refusedButBytes(String call, CallWith onShelf) {
        refusedBeyond(call + " on a SHELF", 0, 5, onShelf, BAD);
        refused(call + " on nothing", x -> onShelf.of(x, 3), MISSING);
        refused(call + " on a LATCH", x -> onShelf.of(x, 4), OTHER_KIND);
        refused(call + " on shorts", x -> onShelf.of(x, 2), OTHER_KIND);
        refused(call + " on ints", x -> onShelf.of(x, 5), OTHER_KIND);
        for (int sort = 3; sort <= 4; sort++) {
            int s = sort;
            refused(() -> Markets.richWith(x -> x.row(3, s, 4)), call + " on sort " + sort, x -> onShelf.of(x, 3),
                    OTHER_KIND);
        }
    }

    /** Runs all cases of a class, and tells which promises they are about. */
    static void run(Class<?> of, Set<Integer> promises, String document) {
        Method[] methods = of.getDeclaredMethods();
        Arrays.sort(methods, Comparator.comparing(Method::getName));
        for (Method m : methods) {
            Says says = m.getAnnotation(Says.class);
            if (says != null) {
                running = of.getName() + "." + m.getName();
                kept = true;
                for (int promise : says.promise()) {
                    promises.add(promise);
                }
                if (!document.isEmpty() && !document.contains(says.value())) {
                    wrong("the document does not say: " + says.value());
                }
                run(m);
                cases++;
                broken += kept ? 0 : 1;
            }
        }
    }

    private static void run(Method m) {
        try {
            m.setAccessible(true);
            m.invoke(null);
        } catch (InvocationTargetException e) {
            wrong("a call threw " + e.getCause());
        } catch (IllegalAccessException | IllegalArgumentException e) {
            wrong("is no case: " + e);
        }
    }

    static int cases() {
        return cases;
    }

    static int broken() {
        return broken;
    }
}
