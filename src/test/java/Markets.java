import java.util.function.Consumer;

/** Markets that the cases of BoundaryTest are asked of. */
final class Markets {
    private Markets() { }

    /** Buyers by pairs of WANTS and HASTE. */
    static ThirdAfter of(int... pairs) {
        ThirdAfter x = new ThirdAfter();
        for (int i = 0; i + 1 < pairs.length; i += 2) {
            x.buyer(pairs[i], pairs[i + 1]);
        }
        return x;
    }

    /** Four who would buy for 20, 10, 0 and 54 at first; who comes in is paid by the coming just ahead (THIRD 1). */
    static ThirdAfter four() {
        ThirdAfter x = of(4, 0, 2, 0, 0, 0, 9, 9);
        x.mend(0, 4, 1);
        return x;
    }

    static ThirdAfter eight() {
        return of(1, 1, 2, 2, 3, 3, 4, 4, 5, 5, 6, 6, 7, 7, 8, 8);
    }

    static ThirdAfter nobody() {
        return new ThirdAfter();
    }

    /** Buyers of some PURSES, each of whom buys for as much as told whenever he comes; THIRD is 1. */
    static ThirdAfter alike(int much, int... purses) {
        ThirdAfter x = new ThirdAfter();
        for (int i = 0; i < purses.length; i++) {
            x.buyer(3, 5);
            x.mend(i, 0, purses[i]);
        }
        law(x, "" + much);
        x.mend(0, 4, 1);
        return x;
    }

    /** A market in which there is something of everything, so that what a call changes is seen. */
    static ThirdAfter rich() {
        ThirdAfter x = of(4, 0, 2, 0, 0, 0, 9, 9);
        law(x, "n*9+o*5+w+h+d");
        x.mend(0, 4, 2);
        comeIn(x, 3, 0, 1);
        x.gives(3, 2, 5);
        x.evening();
        comeIn(x, 0);
        x.image();
        comeIn(x, 1, 1);
        x.gives(0, 1, 3);
        x.evening();
        comeIn(x, 2, 3, 2);
        x.mend(1, 0, 77);
        x.mend(0, 1, 9);
        x.mend(2, 2, 8);
        x.mend(0, 5, 0);
        x.mend(3, 3, 1);
        x.mend(0, 6, 42);
        x.undo();
        x.undo();
        feed(x, "o*7+n");
        x.body(0);
        x.body(7);
        x.body(3);
        x.act(1, 3, 5);
        comings(x, 0, 0, 1, 2, 3);
        comings(x, 1, 9, 0);
        shorts(x, 2, 50, 1, 2, 60, 3, 4);
        x.keep(4, 1);
        x.row(5, 2, 3);
        x.put(5, 2, 70000);
        return x;
    }

    static ThirdAfter richWith(Consumer<ThirdAfter> more) {
        ThirdAfter x = rich();
        more.accept(x);
        return x;
    }

    static void comeIn(ThirdAfter x, int... who) {
        for (int one : who) {
            x.comes(one);
        }
    }

    static void feed(ThirdAfter x, String text) {
        for (int i = 0; i < text.length(); i++) {
            x.feed(text.charAt(i));
        }
    }

    static int law(ThirdAfter x, String text) {
        feed(x, text);
        return x.law();
    }

    private static void fill(ThirdAfter x, int shelf, int sort, int... v) {
        x.row(shelf, sort, v.length);
        for (int i = 0; i < v.length; i++) {
            x.put(shelf, i, v[i]);
        }
    }

    /** A ROW of bytes. */
    static void comings(ThirdAfter x, int shelf, int... who) {
        fill(x, shelf, 0, who);
    }

    /** A ROW of bytes: one n times over, and others behind him. */
    static void comings(ThirdAfter x, int shelf, int[] others, int one, int n) {
        x.row(shelf, 0, n + others.length);
        for (int i = 0; i < n + others.length; i++) {
            x.put(shelf, i, i < n ? one : others[i - n]);
        }
    }

    static void shorts(ThirdAfter x, int shelf, int... v) {
        fill(x, shelf, 1, v);
    }
}
