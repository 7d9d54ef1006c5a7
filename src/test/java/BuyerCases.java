import java.util.function.Supplier;

/** Boundary cases of promises 1 to 6 and 8: a new object, BUYERS and their numbers, THE TAPE, THE BOOK. */
final class BuyerCases {
    /** The numbers of mend(): whose they are, the least and the most of each, and what it is at first. */
    private static final int[] LEAST = {0, 0, 0, 0, 1, 0, 0}, MOST = {999, 9, 9, 1, 5, 1, 99};

    private BuyerCases() { }

    private static Supplier<ThirdAfter> shorts(int... v) {
        return () -> {
            ThirdAfter x = new ThirdAfter();
            Markets.shorts(x, 0, v);
            return x;
        };
    }

    // ---- a new object

    @Says(promise = 1, value = "An empty market.")
    static void p01NothingIsThereAtFirst() {
        ThirdAfter x = new ThirdAfter();
        for (int what = 0; what < 6; what++) {
            Cases.due("count(" + what + ")", x.count(what), 0);
        }
        for (int what = 0; what < 5; what++) {
            Cases.due("led(" + what + ")", x.led(what), 0);
        }
        Cases.due("of(0, 0)", x.of(0, 0), Cases.BAD);
        Cases.due("book(0, 0)", x.book(0, 0), Cases.NOT);
        Cases.due("trace(0)", x.trace(0), Cases.BAD);
        Cases.due("act(0, 0, 1)", x.act(0, 0, 1), 0);
        Cases.due("keep(0, 0)", x.keep(0, 0), Cases.BAD);
        Cases.due("undo()", x.undo(), Cases.STATE);
        Cases.due("redo()", x.redo(), Cases.STATE);
        Cases.due("back()", x.back(), Cases.STATE);
        Cases.due("law()", x.law(), -100);
    }

    @Says(promise = {1, 5},
            value = "THIRD (1 .. 5; 3 at first: the how-manieth behind one he owes to), DOGS (0, 1: whether they "
                    + "count; 1 at first), DAY (0 .. 99; 0 at first).")
    static void p01TheMarketsNumbersAtFirst() {
        ThirdAfter x = new ThirdAfter();
        Cases.due("THIRD", x.of(0, 4), 3);
        Cases.due("DOGS", x.of(0, 5), 1);
        Cases.due("DAY", x.of(0, 6), 0);
    }

    @Says(promise = 1, value = "SHELVES 0 .. 5 each hold nothing (at first)")
    static void p01ShelvesHoldNothingAtFirst() {
        ThirdAfter x = new ThirdAfter();
        for (int shelf = 0; shelf <= 5; shelf++) {
            Cases.due("taken(" + shelf + ", 0)", x.taken(shelf, 0), Cases.MISSING);
            Cases.due("put(" + shelf + ", 0, 1)", x.put(shelf, 0, 1), Cases.MISSING);
        }
    }

    @Says(promise = 1, value = "Without a text: 5 times w, and h, less 2 times o.")
    static void p01NoTextIsTheLawAtFirst() {
        ThirdAfter x = Markets.of(1, 0);
        Markets.comings(x, 0, 0, 0, 0, 0);
        int[] due = {5, 3, 1, 0};
        for (int k = 0; k < due.length; k++) {
            Cases.due("coming(0, " + k + ", 2)", x.coming(0, k, 2), due[k]);
        }
        ThirdAfter most = Markets.of(9, 9);
        Markets.comings(most, 0, 0);
        Cases.due("the most", most.coming(0, 0, 2), 54);
        ThirdAfter least = Markets.of(0, 0);
        Markets.comings(least, 0, 0);
        Cases.due("the least", least.coming(0, 0, 2), 0);
    }

    @Says(promise = 1, value = "public static final int BAD = -1, NOT = -2, FULL = -3, STATE = -5, VOID = -2000000000;")
    static void p01TheAnswersNames() {
        Cases.due("BAD", ThirdAfter.BAD, -1);
        Cases.due("NOT", ThirdAfter.NOT, -2);
        Cases.due("FULL", ThirdAfter.FULL, -3);
        Cases.due("STATE", ThirdAfter.STATE, -5);
        Cases.due("VOID", ThirdAfter.VOID, -2000000000);
    }

    @Says(promise = 1, value = "An object is used for at most 512 calls after it has been made")
    static void p01TheLastOf512Calls() {
        ThirdAfter x = Markets.alike(99, 999, 999);
        // that took 2 buyers, 2 PURSES that are mended, 3 calls for THE LAW, 1 for THIRD
        for (int call = 9; call <= 511; call++) {
            x.comes(call % 2);
        }
        Cases.due("the 512th call", x.led(0), 503);
        ThirdAfter dear = Markets.eight();
        dear.row(0, 0, 20);
        for (int call = 10; call <= 511; call++) {
            dear.later(0, 20, -1);
        }
        Cases.due("the 512th call", dear.drawn(1, 306012, -1) >= 0 ? 1 : 0, 1);
    }

    @Says(promise = {2, 4, 6, 8, 12, 14, 15, 17, 20, 24, 27, 28, 29, 30, 34, 35, 37, 38},
            value = "What is answered so changes nothing.")
    static void p02EachRefusalChangesNothing() {
        Cases.refused("BAD", x -> x.mend(0, 0, 1000), Cases.BAD);
        Cases.refused("NOT", x -> x.book(5, 0), Cases.NOT);
        Cases.refused(Markets::eight, "FULL", x -> x.buyer(0, 0), Cases.FULL);
        Cases.refused("STATE", x -> x.gives(0, 1, 999), Cases.STATE);
        Cases.refused("VOID", x -> x.byTurns(11, 1, 0), Cases.VOID);
        Cases.refused("-11", x -> x.put(3, 0, 1), Cases.MISSING);
        Cases.refused("-12", x -> x.put(4, 0, 1), Cases.OTHER_KIND);
        Cases.refused("-13", x -> x.put(0, 4, 1), Cases.NO_PLACE);
        Cases.refused("-14", x -> x.row(0, 0, -1), Cases.SIZE_BELOW_NONE);
    }

    @Says(promise = 1, value = "All memory is the class's own.")
    static void p01TwoObjectsShareNothing() {
        ThirdAfter x = Markets.rich();
        String fresh = Probe.all(new ThirdAfter());
        ThirdAfter y = new ThirdAfter();
        Probe.all(x);
        Cases.due("a new object among others is like one alone", Probe.all(y).equals(fresh) ? 1 : 0, 1);
        ThirdAfter a = Markets.rich();
        ThirdAfter b = Markets.rich();
        String ofA = Probe.all(a);
        Cases.due("what is asked of one does not change another", Probe.all(b).equals(ofA) ? 1 : 0, 1);
    }

    // ---- buyer

    @Says(promise = 2, value = "BUYERS 0 .. 7, as they come")
    static void p02EightAreNumberedAsTheyCome() {
        ThirdAfter x = new ThirdAfter();
        for (int i = 0; i <= 7; i++) {
            Cases.due("buyer(" + i + ", " + (9 - i) + ")", x.buyer(i, 9 - i), i);
            Cases.due("count(0)", x.count(0), i + 1);
            Cases.due("his WANTS", x.of(i, 1), i);
            Cases.due("his HASTE", x.of(i, 2), 9 - i);
        }
    }

    @Says(promise = 2, value = "`int buyer(int wants, int haste)`: A BUYER: the number. BAD, FULL: 8.")
    static void p02ANinthIsRefused() {
        Cases.refused(Markets::eight, "buyer(3, 5) of nine", x -> x.buyer(3, 5), Cases.FULL);
        ThirdAfter seven = Markets.of(1, 1, 1, 1, 1, 1, 1, 1, 1, 1, 1, 1, 1, 1);
        Cases.due("buyer(3, 5) of eight", seven.buyer(3, 5), 7);
    }

    @Says(promise = 2,
            value = "Answers, of several the one named first: BAD (-1): no such number, or it is not as said; NOT "
                    + "(-2): as told; FULL (-3); STATE (-5): as told; -11 to -14.")
    static void p02BadIsAheadOfFull() {
        Cases.refused(Markets::eight, "buyer(10, 5) of nine", x -> x.buyer(10, 5), Cases.BAD);
        Cases.refused(Markets::eight, "buyer(5, -1) of nine", x -> x.buyer(5, -1), Cases.BAD);
    }

    @Says(promise = 2,
            value = "PURSE (0 .. 999; 100 at first), WANTS (0 .. 9; 3 at first), HASTE (0 .. 9; 5 at first), DOG (0, "
                    + "1; 0 at first).")
    static void p02WantsAndHasteFrom0To9() {
        for (int[] pair : new int[][] {{0, 0}, {0, 9}, {9, 0}, {9, 9}}) {
            ThirdAfter x = Markets.of(3, 3);
            Cases.due("buyer(" + pair[0] + ", " + pair[1] + ")", x.buyer(pair[0], pair[1]), 1);
            Cases.due("PURSE", x.of(1, 0), 100);
            Cases.due("WANTS", x.of(1, 1), pair[0]);
            Cases.due("HASTE", x.of(1, 2), pair[1]);
            Cases.due("DOG", x.of(1, 3), 0);
        }
        Cases.refusedBeyond("buyer(.., 5)", 0, 9, (x, v) -> x.buyer(v, 5), Cases.BAD);
        Cases.refusedBeyond("buyer(3, ..)", 0, 9, (x, v) -> x.buyer(3, v), Cases.BAD);
        Cases.refused("buyer(259, 5)", x -> x.buyer(259, 5), Cases.BAD);
    }

    // ---- buyers

    @Says(promise = 3, value = "BUYERS FROM A ROW on a SHELF, from place i on, n (1 .. 8) of them: how many came.")
    static void p03From1To8() {
        int[] v = new int[27];
        java.util.Arrays.fill(v, 4);
        Cases.due("one", shorts(v).get().buyers(0, 0, 1), 1);
        ThirdAfter x = shorts(v).get();
        Cases.due("eight", x.buyers(0, 0, 8), 8);
        Cases.due("count(0)", x.count(0), 8);
        Cases.due("BUYERS then are FULL", x.buyer(1, 1), Cases.FULL);
        Cases.refusedBeyond("buyers(2, 0, ..)", 1, 8, (y, n) -> y.buyers(2, 0, n), Cases.BAD);
    }

    @Says(promise = 3, value = "SHELVES 0 .. 5")
    static void p03ShelvesFrom0To5() {
        for (int shelf = 0; shelf <= 5; shelf++) {
            ThirdAfter x = new ThirdAfter();
            Markets.shorts(x, shelf, 1, 2, 3);
            Cases.due("buyers(" + shelf + ", 0, 1)", x.buyers(shelf, 0, 1), 1);
        }
        Cases.refusedBeyond("buyers(.., 0, 1)", 0, 5, (x, s) -> x.buyers(s, 0, 1), Cases.BAD);
    }

    @Says(promise = 3, value = "BAD, -12 (no ROW of shorts; a SHELF that holds nothing is missing).")
    static void p03NoRowOfShorts() {
        Cases.refused("buyers() of bytes", x -> x.buyers(0, 0, 1), Cases.OTHER_KIND);
        Cases.refused("buyers() of a LATCH", x -> x.buyers(4, 0, 1), Cases.OTHER_KIND);
        Cases.refused("buyers() of ints", x -> x.buyers(5, 0, 1), Cases.OTHER_KIND);
        for (int sort = 3; sort <= 4; sort++) {
            int s = sort;
            Cases.refused(() -> Markets.richWith(x -> x.row(3, s, 6)), "buyers() of sort " + sort,
                    x -> x.buyers(3, 0, 1), Cases.OTHER_KIND);
        }
        Cases.refused("buyers() of bytes, below", x -> x.buyers(0, -1, 1), Cases.OTHER_KIND);
        Cases.refused("BAD ahead of -12", x -> x.buyers(0, 0, 9), Cases.BAD);
        Cases.refused(Markets::eight, "when FULL, of nothing", x -> x.buyers(0, 0, 1), 0);
    }

    @Says(promise = 3, value = "it ends where the row is missing")
    static void p03AMissingRow() {
        Cases.refused("buyers() of nothing", x -> x.buyers(3, 0, 8), 0);
        Cases.refused("buyers() of nothing, below", x -> x.buyers(3, -1, 1), 0);
        Cases.refused("BAD ahead of a missing ROW", x -> x.buyers(3, 0, 0), Cases.BAD);
    }

    @Says(promise = 3, value = "ends (at a place below 0, too; within a three, too)")
    static void p03TheRowsEnds() {
        Supplier<ThirdAfter> nine = shorts(1, 1, 1, 2, 2, 2, 3, 3, 3);
        int[] places = {0, 1, 2, 3, 4, 5, 6, 7, 8, 9, 10};
        int[] due = {3, 2, 2, 2, 1, 1, 1, 0, 0, 0, 0};
        for (int i = 0; i < places.length; i++) {
            ThirdAfter x = nine.get();
            Cases.due("buyers(0, " + places[i] + ", 8)", x.buyers(0, places[i], 8), due[i]);
            Cases.due("count(0)", x.count(0), due[i]);
        }
        for (int below : new int[] {-1, -2, -3, -9, Cases.LOW, Cases.LOW + 1, Cases.HIGH, Cases.HIGH - 2}) {
            Cases.refused(nine, "buyers(0, " + below + ", 8)", x -> x.buyers(0, below, 8), 0);
        }
        Cases.due("within a three, by one", shorts(1, 1, 1, 2).get().buyers(0, 0, 2), 1);
        Cases.due("within a three, by two", shorts(1, 1, 1, 2, 2).get().buyers(0, 0, 2), 1);
        Cases.due("at its end", shorts(1, 1, 1, 2, 2, 2).get().buyers(0, 0, 2), 2);
        Cases.due("of no shorts", shorts().get().buyers(0, 0, 1), 0);
        int[] sixty = new int[60];
        Cases.due("of sixty, the last", shorts(sixty).get().buyers(0, 57, 8), 1);
        Cases.due("of sixty, within the last", shorts(sixty).get().buyers(0, 58, 8), 0);
        Cases.due("of sixty, behind", shorts(sixty).get().buyers(0, 60, 8), 0);
    }

    @Says(promise = 3, value = "one is not so")
    static void p03OneIsNotSo() {
        int[] most = {999, 9, 9};
        for (int place = 0; place < 3; place++) {
            for (int v : new int[] {-1, most[place] + 1, -32768, 32767}) {
                int[] row = {1, 2, 3, 0, 0, 0, 999, 9, 9, 4, 5, 6};
                row[6 + place] = v;
                ThirdAfter x = shorts(row).get();
                Cases.due("up to " + v + " at " + place, x.buyers(0, 0, 4), 2);
                Cases.due("count(0)", x.count(0), 2);
                ThirdAfter y = shorts(row).get();
                Cases.due("from " + v + " on", y.buyers(0, 6, 2), 0);
            }
        }
    }

    @Says(promise = 3, value = "by threes PURSE, WANTS, HASTE: n of them")
    static void p03TheLeastAndTheMostOfEach() {
        ThirdAfter x = shorts(0, 0, 0, 999, 9, 9, 998, 0, 9, 7, 7, 7).get();
        Cases.due("three of four", x.buyers(0, 0, 3), 3);
        int[][] due = {{0, 0, 0, 0}, {999, 9, 9, 0}, {998, 0, 9, 0}};
        for (int one = 0; one < 3; one++) {
            for (int what = 0; what < 4; what++) {
                Cases.due("of(" + one + ", " + what + ")", x.of(one, what), due[one][what]);
            }
        }
        Cases.due("no fourth", x.of(3, 0), Cases.BAD);
    }

    @Says(promise = 3, value = "or BUYERS are FULL: those ahead came.")
    static void p03UpToFull() {
        for (int there = 6; there <= 8; there++) {
            ThirdAfter x = new ThirdAfter();
            for (int i = 0; i < there; i++) {
                x.buyer(1, 1);
            }
            Markets.shorts(x, 0, 5, 5, 5, 6, 6, 6, 7, 7, 7);
            Cases.due("buyers() of three as " + there + " are there", x.buyers(0, 0, 3), 8 - there);
            Cases.due("count(0)", x.count(0), 8);
            Cases.due("the last one's PURSE", x.of(7, 0), there == 6 ? 6 : there == 7 ? 5 : 100);
        }
    }

    // ---- mend, of

    private static int whose(int what) {
        return what < 4 ? 1 : 0;
    }

    @Says(promise = {4, 5},
            value = "PURSE (what 0), WANTS (1), HASTE (2), DOG (3) of one, THIRD (4), DOGS (5), DAY (6; number 0 for "
                    + "these, else BAD) becomes v: what it was.")
    static void p04TheLeastAndTheMostOfEachNumber() {
        for (int what = 0; what <= 6; what++) {
            int w = what;
            ThirdAfter x = Markets.rich();
            int was = x.of(whose(what), what);
            for (int v : new int[] {LEAST[what], MOST[what], LEAST[what], LEAST[what], MOST[what]}) {
                Cases.due("mend(.., " + what + ", " + v + ")", x.mend(whose(what), what, v), was);
                Cases.due("of(.., " + what + ")", x.of(whose(what), what), v);
                was = v;
            }
            Cases.refusedBeyond("mend(.., " + what + ", ..)", LEAST[what], MOST[what],
                    (y, v) -> y.mend(whose(w), w, v), Cases.BAD);
        }
    }

    @Says(promise = {4, 5}, value = "BUYERS 0 .. 7")
    static void p04OneFrom0ToTheLastThatCame() {
        for (int what = 0; what < 4; what++) {
            int w = what;
            ThirdAfter x = Markets.eight();
            for (int one = 0; one <= 7; one++) {
                Cases.due("mend(" + one + ", " + what + ", 1)", x.mend(one, what, 1),
                        what == 0 ? 100 : what == 3 ? 0 : one + 1);
                Cases.due("of(" + one + ", " + what + ")", x.of(one, what), 1);
            }
            Cases.refusedBeyond("mend(.., " + what + ", 1)", 0, 3, (y, n) -> y.mend(n, w, 1), Cases.BAD);
            Cases.refusedBeyond("of(.., " + what + ")", 0, 3, (y, n) -> y.of(n, w), Cases.BAD);
            Cases.refusedBeyond(Markets::eight, "mend(.., " + what + ", 1) of eight", 0, 7,
                    (y, n) -> y.mend(n, w, 1), Cases.BAD);
            Cases.refusedBeyond(Markets::eight, "of(.., " + what + ") of eight", 0, 7, (y, n) -> y.of(n, w), Cases.BAD);
            Cases.refused(Markets::nobody, "mend(0, " + what + ", 1) of nobody", y -> y.mend(0, w, 1), Cases.BAD);
            Cases.refused(Markets::nobody, "of(0, " + what + ") of nobody", y -> y.of(0, w), Cases.BAD);
        }
    }

    @Says(promise = {4, 5}, value = "number 0 for these, else BAD")
    static void p04TheMarketsNumbersAreOfNumber0() {
        for (int what = 4; what <= 6; what++) {
            int w = what;
            Cases.refusedBeyond("mend(.., " + what + ", 1)", 0, 0, (x, n) -> x.mend(n, w, 1), Cases.BAD);
            Cases.refusedBeyond("of(.., " + what + ")", 0, 0, (x, n) -> x.of(n, w), Cases.BAD);
            ThirdAfter x = new ThirdAfter();
            Cases.due("mend(0, " + what + ", ..) of nobody", x.mend(0, what, MOST[what]), what == 4 ? 3 : what == 5 ? 1
                    : 0);
            Cases.due("of(0, " + what + ") of nobody", x.of(0, what), MOST[what]);
        }
    }

    @Says(promise = {4, 5}, value = "As of mend() (0 to 6). BAD.")
    static void p04NumbersFrom0To6() {
        Cases.refusedBeyond("mend(0, .., 1)", 0, 6, (x, w) -> x.mend(0, w, 1), Cases.BAD);
        Cases.refusedBeyond("of(0, ..)", 0, 6, (x, w) -> x.of(0, w), Cases.BAD);
        Cases.refusedBeyond("mend(1, .., 1)", 0, 3, (x, w) -> x.mend(1, w, 1), Cases.BAD);
        Cases.refusedBeyond("of(1, ..)", 0, 3, (x, w) -> x.of(1, w), Cases.BAD);
    }

    @Says(promise = 4, value = "becomes v: what it was")
    static void p04OneNumberAlone() {
        for (int what = 0; what < 7; what++) {
            ThirdAfter x = Markets.of(3, 5, 3, 5, 3, 5);
            x.mend(whose(what), what, MOST[what]);
            int[] first = {100, 3, 5, 0, 3, 1, 0};
            for (int other = 0; other < 7; other++) {
                for (int one = 0; one < (other < 4 ? 3 : 1); one++) {
                    boolean mended = other == what && one == whose(what);
                    Cases.due("of(" + one + ", " + other + ") behind mend(.., " + what + ", ..)", x.of(one, other),
                            mended ? MOST[what] : first[other]);
                }
            }
        }
    }

    // ---- feed

    @Says(promise = 6, value = "A byte (0 .. 255) comes to THE TAPE: how many it has.")
    static void p06BytesFrom0To255() {
        ThirdAfter x = new ThirdAfter();
        Cases.due("feed(0)", x.feed(0), 1);
        Cases.due("feed(255)", x.feed(255), 2);
        Cases.due("feed(127)", x.feed(127), 3);
        Cases.due("feed(128)", x.feed(128), 4);
        Cases.refusedBeyond("feed(..)", 0, 255, ThirdAfter::feed, Cases.BAD);
        Cases.refused("feed('w' + 256)", y -> y.feed('w' + 256), Cases.BAD);
        Cases.refusedBeyond(Markets::nobody, "feed(..) of an empty TAPE", 0, 255, ThirdAfter::feed, Cases.BAD);
    }

    private static ThirdAfter fullTape() {
        ThirdAfter x = Markets.of(3, 5);
        Markets.feed(x, "7");
        for (int i = 1; i < 60; i++) {
            Markets.feed(x, "+0");
        }
        x.feed('1');
        return x;
    }

    @Says(promise = 6, value = "BAD, FULL (120).")
    static void p06A121stIsRefused() {
        ThirdAfter x = new ThirdAfter();
        for (int i = 1; i <= 120; i++) {
            Cases.due("feed('1')", x.feed('1'), i);
        }
        Cases.due("count(2)", x.count(2), 120);
        Cases.refused(BuyerCases::fullTape, "feed('1') of 121", y -> y.feed('1'), Cases.FULL);
        Cases.refused(BuyerCases::fullTape, "feed(0) of 121", y -> y.feed(0), Cases.FULL);
        Cases.refused(BuyerCases::fullTape, "BAD ahead of FULL", y -> y.feed(256), Cases.BAD);
        Cases.refused(BuyerCases::fullTape, "BAD ahead of FULL", y -> y.feed(-1), Cases.BAD);
    }

    @Says(promise = {6, 7}, value = "THE TAPE is empty then.")
    static void p06AFullTapeIsEmptyBehindLaw() {
        ThirdAfter x = fullTape();
        Cases.due("law()", x.law(), 1);
        Cases.due("count(2)", x.count(2), 0);
        Cases.due("feed('5')", x.feed('5'), 1);
        Cases.due("law()", x.law(), 1);
        Markets.comings(x, 0, 0);
        Cases.due("by the later text", x.coming(0, 0, 2), 5);
        for (int i = 1; i <= 120; i++) {
            Cases.due("feed(';')", x.feed(';'), i);
        }
        Cases.due("law()", x.law(), -100);
        Cases.due("empty behind a FAULT, too", x.count(2), 0);
        Cases.due("feed('6')", x.feed('6'), 1);
    }

    // ---- book

    /** Who comes owes the one behind the next four: THE BOOK is as long as it may be. */
    private static ThirdAfter fiveOpen() {
        ThirdAfter x = Markets.of(4, 0, 2, 0, 0, 0, 9, 9);
        x.mend(0, 4, 5);
        Markets.comeIn(x, 3, 0, 1, 2, 0, 1);
        return x;
    }

    @Says(promise = 8, value = "who owes the k-th debt (what 0; 0 the oldest), how much (1)")
    static void p08TheOldestAndTheLatest() {
        ThirdAfter x = fiveOpen();
        int[] who = {0, 1, 2, 0, 1}, much = {20, 10, 0, 18, 8};
        for (int k = 0; k < 5; k++) {
            Cases.due("book(" + k + ", 0)", x.book(k, 0), who[k]);
            Cases.due("book(" + k + ", 1)", x.book(k, 1), much[k]);
        }
        Cases.refusedBeyond(BuyerCases::fiveOpen, "book(0, ..)", 0, 1, (y, w) -> y.book(0, w), Cases.BAD);
    }

    @Says(promise = 8, value = "BAD; NOT: there are not as many.")
    static void p08ThereAreNotAsMany() {
        for (int what = 0; what <= 1; what++) {
            int w = what;
            for (int k : new int[] {5, 6, Cases.HIGH}) {
                Cases.refused(BuyerCases::fiveOpen, "book(" + k + ", " + what + ")", x -> x.book(k, w), Cases.NOT);
            }
            Cases.refused(Markets::four, "book(0, " + what + ") of no debts", x -> x.book(0, w), Cases.NOT);
            for (int k : new int[] {-1, Cases.LOW}) {
                Cases.refused(BuyerCases::fiveOpen, "book(" + k + ", " + what + ")", x -> x.book(k, w), Cases.BAD);
                Cases.refused(Markets::four, "book(" + k + ", " + what + ") of no debts", x -> x.book(k, w), Cases.BAD);
            }
        }
        Cases.refused(BuyerCases::fiveOpen, "BAD ahead of NOT", x -> x.book(5, 2), Cases.BAD);
        Cases.refused(BuyerCases::fiveOpen, "BAD ahead of NOT", x -> x.book(5, -1), Cases.BAD);
        ThirdAfter one = Markets.four();
        one.comes(3);
        Cases.due("the only one", one.book(0, 1), 54);
        Cases.due("behind the only one", one.book(1, 1), Cases.NOT);
    }

    @Says(promise = 8, value = "THE BOOK: what is open, the oldest first (at most 5 debts): who, how much.")
    static void p08AtMostFiveAreOpen() {
        for (int third = 1; third <= 5; third++) {
            ThirdAfter x = Markets.of(1, 1);
            x.mend(0, 4, third);
            for (int i = 1; i <= 7; i++) {
                x.comes(0);
                Cases.due("open behind " + i + " comings by THIRD " + third, x.count(1), Math.min(i, third));
            }
        }
    }
}
