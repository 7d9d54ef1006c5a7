import java.util.function.Supplier;

/** Boundary cases of promises 30 to 39: LATCHES and their acts, SHELVES, ROWS, what is counted. */
final class ShelfCases {
    private static final String[] KINDS = {"LATCH", "BAKER", "PRIEST", "COW", "RENT", "DUSK", "HOUND", "PURSE"};

    private ShelfCases() { }

    /** A LATCH of each KIND, by the KIND's number. */
    private static ThirdAfter ofEachKind() {
        ThirdAfter x = new ThirdAfter();
        for (int kind = 0; kind < 8; kind++) {
            x.body(kind);
        }
        return x;
    }

    private static Supplier<ThirdAfter> bodies(int n) {
        return () -> {
            ThirdAfter x = new ThirdAfter();
            for (int i = 0; i < n; i++) {
                x.body(i % 8);
            }
            return x;
        };
    }

    private static void trace(ThirdAfter x, int... bodies) {
        Cases.due("count(5)", x.count(5), bodies.length);
        for (int i = 0; i < bodies.length; i++) {
            Cases.due("trace(" + i + ")", x.trace(i), bodies[i]);
        }
        Cases.due("trace(" + bodies.length + ")", x.trace(bodies.length), Cases.BAD);
    }

    private static void elements(ThirdAfter x, int shelf, long... due) {
        for (int i = 0; i < due.length; i++) {
            Cases.due("element(" + shelf + ", " + i + ")", x.element(shelf, i), due[i]);
        }
        Cases.due("element(" + shelf + ", " + due.length + ")", x.element(shelf, due.length), Long.MIN_VALUE);
    }

    // ---- body

    @Says(promise = 30, value = "A LATCH of a KIND (0 .. 7) is kept: its number. BAD, FULL.")
    static void p30KindsFrom0To7() {
        ThirdAfter x = new ThirdAfter();
        for (int kind = 0; kind <= 7; kind++) {
            Cases.due("body(" + kind + ")", x.body(kind), kind);
            x.keep(0, kind);
            Cases.due("its KIND", x.taken(0, 0), kind);
        }
        Cases.refusedBeyond("body(..)", 0, 7, ThirdAfter::body, Cases.BAD);
        Cases.refusedBeyond(Markets::nobody, "body(..) as none is kept", 0, 7, ThirdAfter::body, Cases.BAD);
    }

    @Says(promise = 30, value = "LATCHES' ways are kept by call as BODIES 0 .. 49")
    static void p30FiftyBodies() {
        ThirdAfter x = bodies(49).get();
        Cases.due("the 50th", x.body(3), 49);
        Cases.due("count(4)", x.count(4), 50);
        for (int kind = 0; kind <= 7; kind++) {
            int k = kind;
            Cases.refused(bodies(50), "the 51st", y -> y.body(k), Cases.FULL);
        }
        Cases.refused(bodies(50), "BAD ahead of FULL", y -> y.body(8), Cases.BAD);
        Cases.refused(bodies(50), "BAD ahead of FULL", y -> y.body(-1), Cases.BAD);
        Cases.due("the 50th's number in its act", x.act(49, 0, 10), 59);
        Cases.due("the 50th is kept on a SHELF", x.keep(5, 49), 1);
        Cases.due("its KIND", x.taken(5, 3), 3);
    }

    // ---- act, trace

    @Says(promise = {31, 32},
            value = "An ACT (0 .. 3) of a LATCH with x. 0, and no TRACE then: no such LATCH, ACT.")
    static void p31NoSuchLatchOrAct() {
        int[][] wrong = {{-1, 0}, {8, 0}, {49, 0}, {50, 0}, {Cases.LOW, 0}, {Cases.HIGH, 0}, {0, -1}, {0, 4}, {7, -1},
            {7, 4}, {0, Cases.LOW}, {0, Cases.HIGH}, {8, 4}};
        for (int[] w : wrong) {
            ThirdAfter x = ofEachKind();
            x.act(7, 3, 10);
            Cases.due("act(" + w[0] + ", " + w[1] + ", 5)", x.act(w[0], w[1], 5), 0);
            trace(x);
            Cases.due("count(4)", x.count(4), 8);
        }
        ThirdAfter none = new ThirdAfter();
        Cases.due("act(0, 0, 5) as none is kept", none.act(0, 0, 5), 0);
        trace(none);
    }

    @Says(promise = {31, 32},
            value = "ACTS with x (an int that wraps): 0 comes, 1 owes, 2 pays, 3 tells; n its number.")
    static void p31ActsFrom0To3() {
        ThirdAfter x = ofEachKind();
        int[] due = {10, 20, 10, 20 - 1};
        for (int act = 0; act <= 3; act++) {
            Cases.due("act(0, " + act + ", 10)", x.act(0, act, 10), due[act]);
        }
        Cases.due("act(7, 3, 10)", x.act(7, 3, 10), 33 - (6 - 12) - 1);
    }

    @Says(promise = 31, value = "x (an int that wraps)")
    static void p31AnIntThatWraps() {
        ThirdAfter x = ofEachKind();
        int high = Cases.HIGH, low = Cases.LOW;
        Cases.due("LATCH comes: high + 0", x.act(0, 0, high), high);
        Cases.due("BAKER comes: high + 1 + 3", x.act(1, 0, high), low + 3);
        Cases.due("LATCH owes: low * 2", x.act(0, 1, low), 0);
        Cases.due("PRIEST owes: -((low - 2 + 2) * 2)", x.act(2, 1, low - 2), 0);
        Cases.due("PRIEST owes: -(2 ^ 30 * 2), as that is the lowest", x.act(2, 1, (1 << 30) - 2), low);
        Cases.due("COW owes: -((low + 3) * 2), as x + 1 wraps", x.act(3, 1, high), -6);
        Cases.due("COW pays: (high ^ 3) * 3", x.act(3, 2, high), (high - 3) * 3);
        Cases.due("HOUND comes: (high + 6) * 2", x.act(6, 0, high), 10);
        Cases.due("RENT pays: (low ^ 4) - (2 + 4 + 3)", x.act(4, 2, low), high - 4);
        Cases.due("LATCH pays: low ^ 0", x.act(0, 2, low), low);
        Cases.due("PURSE tells 0 and low", x.act(7, 3, low) - x.act(7, 3, 0), 0);
        Cases.due("DUSK pays: (-1 ^ 5) * 3", x.act(5, 2, -1), -18);
    }

    @Says(promise = 31,
            value = "comes(..) and so on (act 0 is comes): the body of its own KIND, or of the next KIND above that "
                    + "has one; super: from the KIND above the body's on.")
    static void p31EachActOfEachKind() {
        // with x 10 of the LATCH whose number is its KIND
        int[][] due = {
            {10, 20, 10, 20 - 1},
            {14, 28, 11, 28},
            {12, -24, 8, -24 - 3},
            {13, -28, 27, -28 - 6},
            {17, 34, 14 - 9, 34 - (5 - 9)},
            {15, -32, 45, (-32 - 12) ^ 5},
            {32, 64, 12, 64 - 7},
            {20, 40 + (5 - 12), 13 - 12, 33 - (6 - 12) - 1}};
        int[][][] bodies = {
            {{1}, {10, 1}, {11}, {2, 10, 1, 11}},
            {{20, 1}, {10, 20, 1}, {11}, {2, 10, 20, 1, 11}},
            {{1}, {30, 10, 1}, {11}, {2, 30, 10, 1, 11}},
            {{1}, {41, 30, 10, 1}, {40, 11}, {2, 41, 30, 10, 1, 40, 11}},
            {{20, 1}, {10, 20, 1}, {50, 11, 20, 1}, {2, 10, 20, 1, 50, 11, 20, 1}},
            {{1}, {41, 30, 10, 1}, {40, 11}, {60, 2, 41, 30, 10, 1, 40, 11}},
            {{70, 1}, {10, 70, 1}, {11}, {2, 10, 70, 1, 11}},
            {{20, 1}, {80, 10, 20, 1, 50, 11, 20, 1}, {50, 11, 20, 1},
                {81, 2, 80, 10, 20, 1, 50, 11, 20, 1, 50, 11, 20, 1}}};
        for (int kind = 0; kind < 8; kind++) {
            for (int act = 0; act < 4; act++) {
                ThirdAfter x = ofEachKind();
                Cases.due(KINDS[kind] + "'s act " + act, x.act(kind, act, 10), due[kind][act]);
                trace(x, bodies[kind][act]);
            }
        }
    }

    @Says(promise = 32, value = "THE TRACE's i-th body. BAD.")
    static void p32FromTheFirstToTheLast() {
        Supplier<ThirdAfter> longest = () -> {
            ThirdAfter x = ofEachKind();
            x.act(7, 3, 10);
            return x;
        };
        Cases.due("the first", longest.get().trace(0), 81);
        Cases.due("the last", longest.get().trace(13), 1);
        Cases.refusedBeyond(longest, "trace(..) of 14", 0, 13, ThirdAfter::trace, Cases.BAD);
        Cases.refusedBeyond(ShelfCases::ofEachKind, "trace(..) of none", 0, -1, ThirdAfter::trace, Cases.BAD);
        for (int i : new int[] {14, 23, 24, 25}) {
            Cases.refused(longest, "trace(" + i + ") of 14", x -> x.trace(i), Cases.BAD);
        }
        ThirdAfter x = longest.get();
        x.act(0, 0, 1);
        trace(x, 1);
        x.body(0);
        x.keep(0, 0);
        trace(x, 1);
    }

    @Says(promise = 32, value = "as they began; the first 24 are kept")
    static void p32AllOfAnActAreKept() {
        for (int kind = 0; kind <= 7; kind++) {
            for (int act = 0; act <= 3; act++) {
                ThirdAfter x = ofEachKind();
                x.act(kind, act, 1);
                int ran = x.count(5);
                Cases.due("no act of " + KINDS[kind] + " runs 24", ran >= 1 && ran <= 14 ? 1 : 0, 1);
                int last = x.trace(ran - 1);
                Cases.due("the last is kept, and is a body of LATCH", last > 0 && last < 12 ? 1 : 0, 1);
                Cases.due("none behind", x.trace(ran), Cases.BAD);
            }
        }
    }

    // ---- keep, taken

    @Says(promise = 33, value = "A SHELF holds nothing (body -1), or a LATCH: 1. BAD.")
    static void p33BodiesFromMinus1() {
        ThirdAfter x = ofEachKind();
        Cases.due("keep(0, 0)", x.keep(0, 0), 1);
        Cases.due("taken(0, 0)", x.taken(0, 0), 0);
        Cases.due("keep(0, 7)", x.keep(0, 7), 1);
        Cases.due("taken(0, 0)", x.taken(0, 0), 7);
        Cases.due("keep(0, -1)", x.keep(0, -1), 1);
        Cases.due("taken(0, 0)", x.taken(0, 0), Cases.MISSING);
        Cases.due("keep(0, -1) again", x.keep(0, -1), 1);
        Cases.refusedBeyond("keep(0, ..)", -1, 2, (y, b) -> y.keep(0, b), Cases.BAD);
        Cases.refusedBeyond("keep(3, ..)", -1, 2, (y, b) -> y.keep(3, b), Cases.BAD);
        Cases.refusedBeyond(bodies(50), "keep(0, ..) of 50", -1, 49, (y, b) -> y.keep(0, b), Cases.BAD);
        Cases.refused(bodies(0), "keep(0, 0) of none", y -> y.keep(0, 0), Cases.BAD);
        Cases.due("keep(0, -1) of none", bodies(0).get().keep(0, -1), 1);
    }

    @Says(promise = {33, 34, 38}, value = "SHELVES 0 .. 5 each hold nothing (at first), a LATCH (a BODY), or a ROW")
    static void p33ShelvesFrom0To5() {
        ThirdAfter x = ofEachKind();
        for (int shelf = 0; shelf <= 5; shelf++) {
            Cases.due("keep(" + shelf + ", ..)", x.keep(shelf, shelf), 1);
        }
        for (int shelf = 0; shelf <= 5; shelf++) {
            Cases.due("taken(" + shelf + ", 0)", x.taken(shelf, 0), shelf);
        }
        for (int shelf = 0; shelf <= 5; shelf++) {
            Cases.due("row(" + shelf + ", 2, ..)", x.row(shelf, 2, shelf + 1), 1);
            Cases.due("put(" + shelf + ", ..)", x.put(shelf, shelf, 70 + shelf), 1);
        }
        for (int shelf = 0; shelf <= 5; shelf++) {
            Cases.due("element(" + shelf + ", ..)", x.element(shelf, shelf), 70 + shelf);
            Cases.due("put(" + shelf + ", ..)", x.put(shelf, shelf + 1, 1), Cases.NO_PLACE);
        }
        Cases.refusedBeyond("keep(.., 0)", 0, 5, (y, s) -> y.keep(s, 0), Cases.BAD);
        Cases.refusedBeyond("keep(.., -1)", 0, 5, (y, s) -> y.keep(s, -1), Cases.BAD);
        Cases.refusedBeyond("row(.., 0, 1)", 0, 5, (y, s) -> y.row(s, 0, 1), Cases.BAD);
        Cases.refusedBeyond("put(.., 0, 1)", 0, 5, (y, s) -> y.put(s, 0, 1), Cases.BAD);
        Cases.refusedBeyond("element(.., 0)", 0, 5, (y, s) -> y.element(s, 0), Long.MIN_VALUE);
        Cases.refusedBeyond("taken(.., 0)", 0, 5, (y, s) -> y.taken(s, 0), Cases.BAD);
    }

    @Says(promise = 38,
            value = "What a SHELF holds, taken for a LATCH of KIND k (0 .. 7), or under it: its KIND. BAD, -11, -12.")
    static void p38EachKindForEach() {
        boolean[][] under = new boolean[8][8];
        int[] above = {-1, 0, 0, 2, 1, 3, 0, 4};
        for (int kind = 0; kind < 8; kind++) {
            for (int up = kind; up >= 0; up = above[up]) {
                under[kind][up] = true;
            }
        }
        ThirdAfter x = ofEachKind();
        for (int kind = 0; kind < 8; kind++) {
            x.keep(0, kind);
            for (int k = 0; k <= 7; k++) {
                Cases.due("a " + KINDS[kind] + " taken for a " + KINDS[k], x.taken(0, k),
                        under[kind][k] ? kind : Cases.OTHER_KIND);
            }
        }
        Cases.refusedBeyond("taken(4, ..)", 0, 7, (y, k) -> y.taken(4, k), Cases.BAD);
        Cases.refusedBeyond("taken(3, ..) of nothing", 0, 7, (y, k) -> y.taken(3, k), Cases.BAD);
        Cases.refusedBeyond("taken(0, ..) of a ROW", 0, 7, (y, k) -> y.taken(0, k), Cases.BAD);
        for (int k = 0; k <= 7; k++) {
            int kind = k;
            Cases.refused("taken(3, " + k + ") of nothing", y -> y.taken(3, kind), Cases.MISSING);
            Cases.refused("taken(0, " + k + ") of a ROW", y -> y.taken(0, kind), Cases.OTHER_KIND);
        }
        Cases.refused("taken(4, 3) of a PURSE", y -> y.taken(4, 3), Cases.OTHER_KIND);
    }

    // ---- row, put, element

    @Says(promise = 34, value = "A SHELF holds a ROW: 1. BAD (sort, n above 60); -14.")
    static void p34From0To60Elements() {
        for (int n : new int[] {0, 1, 59, 60}) {
            ThirdAfter x = new ThirdAfter();
            Cases.due("row(0, 3, " + n + ")", x.row(0, 3, n), 1);
            Cases.due("put() at the last", x.put(0, n - 1, 5), n == 0 ? Cases.NO_PLACE : 1);
            Cases.due("put() behind the last", x.put(0, n, 5), Cases.NO_PLACE);
        }
        for (int n : new int[] {61, Cases.HIGH}) {
            Cases.refused("row(0, 3, " + n + ")", x -> x.row(0, 3, n), Cases.BAD);
        }
        for (int n : new int[] {-1, -60, Cases.LOW}) {
            Cases.refused("row(0, 3, " + n + ")", x -> x.row(0, 3, n), Cases.SIZE_BELOW_NONE);
            Cases.refused("BAD ahead of -14", x -> x.row(6, 3, n), Cases.BAD);
            Cases.refused("BAD ahead of -14", x -> x.row(0, 5, n), Cases.BAD);
        }
    }

    @Says(promise = 34, value = "a ROW: of 0 bytes, 1 shorts, 2 ints, 3 longs, 4 booleans")
    static void p34SortsFrom0To4() {
        ThirdAfter x = new ThirdAfter();
        for (int sort = 0; sort <= 4; sort++) {
            Cases.due("row(0, " + sort + ", 2)", x.row(0, sort, 2), 1);
            x.put(0, 0, 0x1122334455667788L);
            long[] kept = {(byte) 0x88, 0x7788, 0x55667788, 0x1122334455667788L, 1};
            elements(x, 0, kept[sort], 0);
        }
        Cases.refusedBeyond("row(0, .., 2)", 0, 4, (y, s) -> y.row(0, s, 2), Cases.BAD);
    }

    @Says(promise = 34, value = "of 0 .. 60 elements, 0 at first (false)")
    static void p34NoughtsAtFirst() {
        for (int sort = 0; sort <= 4; sort++) {
            ThirdAfter x = new ThirdAfter();
            x.row(0, sort, 60);
            x.put(0, 0, 1);
            x.put(0, 1, 1);
            x.put(0, 59, 1);
            x.row(0, sort, 2);
            elements(x, 0, 0, 0);
            x.put(0, 1, 1);
            x.keep(0, -1);
            x.row(0, sort, 60);
            for (int i : new int[] {0, 1, 2, 58, 59}) {
                Cases.due("element(0, " + i + ")", x.element(0, i), 0);
            }
        }
    }

    @Says(promise = {35, 36},
            value = "what is put in keeps its lowest bits (a boolean: whether it is not 0; 1 or 0)")
    static void p35TheLeastAndTheMostOfEachSort() {
        long[] least = {-128, -32768, Integer.MIN_VALUE, Long.MIN_VALUE, 0};
        long[] most = {127, 32767, Integer.MAX_VALUE, Long.MAX_VALUE, 1};
        for (int sort = 0; sort <= 4; sort++) {
            ThirdAfter x = new ThirdAfter();
            x.row(0, sort, 3);
            x.put(0, 0, least[sort]);
            x.put(0, 1, most[sort]);
            x.put(0, 2, -1);
            elements(x, 0, least[sort], most[sort], sort == 4 ? 1 : -1);
            x.put(0, 0, least[sort] - 1);
            x.put(0, 1, most[sort] + 1);
            x.put(0, 2, 0);
            elements(x, 0, sort == 4 ? 1 : most[sort], sort == 4 ? 1 : least[sort], 0);
        }
        ThirdAfter b = new ThirdAfter();
        b.row(0, 4, 4);
        b.put(0, 0, 256);
        b.put(0, 1, 1L << 32);
        b.put(0, 2, Long.MIN_VALUE);
        b.put(0, 3, 2);
        elements(b, 0, 1, 1, 1, 1);
        b.put(0, 0, 0);
        elements(b, 0, 0, 1, 1, 1);
    }

    @Says(promise = {35, 36}, value = "-13 a place that is not there")
    static void p35AllPlaces() {
        ThirdAfter x = new ThirdAfter();
        x.row(1, 1, 60);
        for (int i = 0; i <= 59; i++) {
            Cases.due("put(1, " + i + ", ..)", x.put(1, i, 100 + i), 1);
        }
        for (int i = 0; i <= 59; i++) {
            Cases.due("element(1, " + i + ")", x.element(1, i), 100 + i);
        }
        // the ROWS of a rich market: 4 bytes, 2 bytes, 6 shorts, 3 ints
        int[][] rows = {{0, 4}, {1, 2}, {2, 6}, {5, 3}};
        for (int[] row : rows) {
            Cases.refusedBeyond("put(" + row[0] + ", .., 1)", 0, row[1] - 1, (y, i) -> y.put(row[0], i, 1),
                    Cases.NO_PLACE);
            Cases.refusedBeyond("element(" + row[0] + ", ..)", 0, row[1] - 1, (y, i) -> y.element(row[0], i),
                    Long.MIN_VALUE);
        }
        Supplier<ThirdAfter> empty = () -> Markets.richWith(y -> y.row(3, 3, 0));
        Cases.refusedBeyond(empty, "put(3, .., 1) of no elements", 0, -1, (y, i) -> y.put(3, i, 1), Cases.NO_PLACE);
        Cases.refusedBeyond(empty, "element(3, ..) of no elements", 0, -1, (y, i) -> y.element(3, i), Long.MIN_VALUE);
    }

    @Says(promise = {35, 36}, value = "-11 nothing is there where something is wanted; -12 it is of another kind")
    static void p35NoRow() {
        for (int i : new int[] {-1, 0, 60}) {
            Cases.refused("put(3, ..) of nothing", x -> x.put(3, i, 1), Cases.MISSING);
            Cases.refused("put(4, ..) of a LATCH", x -> x.put(4, i, 1), Cases.OTHER_KIND);
            Cases.refused("element(3, ..) of nothing", x -> x.element(3, i), Long.MIN_VALUE);
            Cases.refused("element(4, ..) of a LATCH", x -> x.element(4, i), Long.MIN_VALUE);
            Cases.refused("put(6, ..)", x -> x.put(6, i, 1), Cases.BAD);
        }
    }

    // ---- shift

    private static ThirdAfter twoRows() {
        ThirdAfter x = new ThirdAfter();
        for (int shelf = 0; shelf <= 1; shelf++) {
            x.row(shelf, 3, 5 - 2 * shelf);
            for (int i = 0; i < 5 - 2 * shelf; i++) {
                x.put(shelf, i, 10 * shelf + i + 1);
            }
        }
        return x;
    }

    @Says(promise = 37,
            value = "n elements of a ROW from i on come to another one (or the same) from j on, as they all were "
                    + "before: n. BAD, -11 (either), -12 (no ROWS, or of unlike sorts), -13.")
    static void p37UpToTheEnds() {
        ThirdAfter x = twoRows();
        Cases.due("all of the shorter", x.shift(1, 0, 0, 2, 3), 3);
        elements(x, 0, 1, 2, 11, 12, 13);
        elements(x, 1, 11, 12, 13);
        Cases.due("the last to the first", x.shift(0, 4, 1, 0, 1), 1);
        elements(x, 1, 13, 12, 13);
        Cases.due("the first to the last", x.shift(0, 0, 1, 2, 1), 1);
        elements(x, 1, 13, 12, 1);
        Cases.due("none", x.shift(0, 0, 1, 0, 0), 0);
        Cases.due("none from the end to the end", x.shift(0, 5, 1, 3, 0), 0);
        elements(x, 0, 1, 2, 11, 12, 13);
        elements(x, 1, 13, 12, 1);
    }

    @Says(promise = 37, value = "-13 a place that is not there")
    static void p37Places() {
        int[][] places = {{-1, 0, 1}, {5, 0, 1}, {4, 0, 2}, {3, 0, 3}, {0, -1, 1}, {0, 3, 1}, {0, 2, 2}, {0, 1, 3},
            {0, 0, -1}, {0, 0, 4}, {0, 0, 6}, {-1, 0, 0}, {6, 0, 0}, {0, -1, 0}, {0, 4, 0}, {5, 3, -1}, {6, 4, -1},
            {Cases.HIGH, 0, 1}, {0, Cases.HIGH, 1}, {0, 0, Cases.HIGH}, {1, 1, Cases.HIGH}, {Cases.LOW, 0, 1},
            {0, Cases.LOW, 1}, {0, 0, Cases.LOW}, {Cases.HIGH, 0, Cases.HIGH}, {Cases.LOW, 0, Cases.LOW},
            {2, 2, Cases.HIGH - 1}};
        for (int[] p : places) {
            Cases.refused(ShelfCases::twoRows, "shift(0, " + p[0] + ", 1, " + p[1] + ", " + p[2] + ")",
                    x -> x.shift(0, p[0], 1, p[1], p[2]), Cases.NO_PLACE);
        }
        Cases.refused(ShelfCases::twoRows, "within itself, above", x -> x.shift(0, 0, 0, 1, 5), Cases.NO_PLACE);
        Cases.refused(ShelfCases::twoRows, "within itself, below", x -> x.shift(0, 1, 0, 0, 5), Cases.NO_PLACE);
    }

    @Says(promise = 37, value = "(or the same) from j on, as they all were before: n")
    static void p37WithinItself() {
        ThirdAfter up = twoRows();
        Cases.due("by one up", up.shift(0, 0, 0, 1, 4), 4);
        elements(up, 0, 1, 1, 2, 3, 4);
        ThirdAfter down = twoRows();
        Cases.due("by one down", down.shift(0, 1, 0, 0, 4), 4);
        elements(down, 0, 2, 3, 4, 5, 5);
        ThirdAfter whole = twoRows();
        Cases.due("to where it is", whole.shift(0, 0, 0, 0, 5), 5);
        elements(whole, 0, 1, 2, 3, 4, 5);
    }

    @Says(promise = 37, value = "BAD, -11 (either), -12 (no ROWS, or of unlike sorts), -13.")
    static void p37TwoRowsOfOneSort() {
        Cases.refusedBeyond("shift(.., 0, 0, 0, 1)", 0, 5, (x, s) -> x.shift(s, 0, 0, 0, 1), Cases.BAD);
        Cases.refusedBeyond("shift(0, 0, .., 0, 1)", 0, 5, (x, s) -> x.shift(0, 0, s, 0, 1), Cases.BAD);
        Cases.refused("BAD ahead of -11", x -> x.shift(3, 0, 6, 0, 1), Cases.BAD);
        Cases.refused("BAD ahead of -12", x -> x.shift(-1, 0, 4, 0, 1), Cases.BAD);
        Cases.refused("from nothing", x -> x.shift(3, 0, 0, 0, 1), Cases.MISSING);
        Cases.refused("to nothing", x -> x.shift(0, 0, 3, 0, 1), Cases.MISSING);
        Cases.refused("from nothing to nothing", x -> x.shift(3, 0, 3, 0, 0), Cases.MISSING);
        Cases.refused("from nothing to a LATCH", x -> x.shift(3, 0, 4, 0, 1), Cases.MISSING);
        Cases.refused("from a LATCH to nothing", x -> x.shift(4, 0, 3, 0, 1), Cases.MISSING);
        Cases.refused("from a LATCH", x -> x.shift(4, 0, 0, 0, 1), Cases.OTHER_KIND);
        Cases.refused("to a LATCH", x -> x.shift(0, 0, 4, 0, 1), Cases.OTHER_KIND);
        Cases.refused("from a LATCH to itself", x -> x.shift(4, 0, 4, 0, 0), Cases.OTHER_KIND);
        Cases.refused("-11 ahead of -13", x -> x.shift(0, 9, 3, 9, 9), Cases.MISSING);
        Cases.refused("-12 ahead of -13", x -> x.shift(0, 9, 2, 9, 9), Cases.OTHER_KIND);
        for (int sort = 0; sort <= 4; sort++) {
            for (int other = 0; other <= 4; other++) {
                int a = sort, b = other;
                Supplier<ThirdAfter> both = () -> Markets.richWith(x -> {
                    x.row(0, a, 3);
                    x.row(1, b, 3);
                    x.put(0, 0, 1);
                });
                if (a == b) {
                    ThirdAfter x = both.get();
                    Cases.due("of sort " + a, x.shift(0, 0, 1, 1, 2), 2);
                    elements(x, 1, 0, 1, 0);
                } else {
                    Cases.refused(both, "from sort " + a + " to sort " + b, x -> x.shift(0, 0, 1, 1, 2),
                            Cases.OTHER_KIND);
                    Cases.refused(both, "none from sort " + a + " to sort " + b, x -> x.shift(0, 0, 1, 1, 0),
                            Cases.OTHER_KIND);
                }
            }
        }
    }

    // ---- count

    @Says(promise = 39,
            value = "How many: 0 BUYERS, 1 debts in THE BOOK, 2 bytes on THE TAPE, 3 changes that may be UNDONE, 4 "
                    + "BODIES, 5 bodies that ran in the latest act() (all, kept or not). BAD.")
    static void p39From0To5() {
        ThirdAfter x = Markets.rich();
        int[] due = {4, 2, 5, 5, 3, 14};
        for (int what = 0; what <= 5; what++) {
            Cases.due("count(" + what + ")", x.count(what), due[what]);
        }
        Cases.refusedBeyond("count(..)", 0, 5, ThirdAfter::count, Cases.BAD);
        Cases.refusedBeyond(Markets::nobody, "count(..) of nobody", 0, 5, ThirdAfter::count, Cases.BAD);
    }

    @Says(promise = 39, value = "3 changes that may be UNDONE")
    static void p39TheMostOfEach() {
        ThirdAfter x = Markets.eight();
        x.mend(0, 4, 5);
        for (int i = 0; i < 45; i++) {
            x.mend(0, 0, i);
            x.comes(i % 8);
            x.body(i % 8);
        }
        for (int i = 45; i < 55; i++) {
            x.body(0);
        }
        for (int i = 0; i < 125; i++) {
            x.feed('1');
        }
        x.buyer(1, 1);
        int[] due = {8, 5, 120, 40, 50, 0};
        for (int what = 0; what <= 5; what++) {
            Cases.due("count(" + what + ")", x.count(what), due[what]);
        }
        x.undo();
        Cases.due("count(3) as one is undone", x.count(3), 39);
        x.redo();
        Cases.due("count(3) as it is done again", x.count(3), 40);
    }
}
