import java.util.function.Supplier;

/** Boundary cases of promises 18 to 21: what was seen, brothers by turns, draws. */
final class SeenCases {
    private static final int[] REFUSED_SHELVES = {-1, -10, 6, 9, 16, 56, 60, 66, 99, 100, 110, Cases.LOW, Cases.HIGH};

    private SeenCases() { }

    /** Four() with a ROW of comings on SHELF 0, in which 0 pays 1, 1 pays 3, 3 pays 0. */
    private static Supplier<ThirdAfter> seen(int... by) {
        return () -> {
            ThirdAfter x = Markets.four();
            Markets.comings(x, 0, 0, 1, 3, 0);
            Markets.comings(x, 1, by);
            return x;
        };
    }

    /** What a call of ss refuses, of the ROW and of SEEN. */
    private static void refusedShelves(String call, Cases.CallWith of) {
        for (int ss : REFUSED_SHELVES) {
            Cases.refused(call + " of " + ss, x -> of.of(x, ss), Cases.BAD);
        }
        Cases.refused(call + " of a ROW that is not there", x -> of.of(x, 30), Cases.MISSING);
        Cases.refused(call + " of a ROW on a LATCH", x -> of.of(x, 40), Cases.OTHER_KIND);
        Cases.refused(call + " of a ROW of shorts", x -> of.of(x, 20), Cases.OTHER_KIND);
        Cases.refused(call + " of a ROW of ints", x -> of.of(x, 50), Cases.OTHER_KIND);
        Cases.refused(call + " of SEEN that is not there", x -> of.of(x, 3), Cases.MISSING);
        Cases.refused(call + " of SEEN on a LATCH", x -> of.of(x, 4), Cases.OTHER_KIND);
        Cases.refused(call + " of SEEN of shorts", x -> of.of(x, 2), Cases.OTHER_KIND);
        Cases.refused(call + " of SEEN of ints", x -> of.of(x, 5), Cases.OTHER_KIND);
        for (int sort = 3; sort <= 4; sort++) {
            int s = sort;
            Supplier<ThirdAfter> other = () -> Markets.richWith(x -> x.row(3, s, 4));
            Cases.refused(other, call + " of a ROW of sort " + sort, x -> of.of(x, 30), Cases.OTHER_KIND);
            Cases.refused(other, call + " of SEEN of sort " + sort, x -> of.of(x, 3), Cases.OTHER_KIND);
        }
        Cases.refused(call + ": the ROW first, a LATCH ahead of nothing", x -> of.of(x, 43), Cases.OTHER_KIND);
        Cases.refused(call + ": the ROW first, nothing ahead of a LATCH", x -> of.of(x, 34), Cases.MISSING);
    }

    // ---- judge

    @Says(promise = 18,
            value = "(ss: 10 times the SHELF of the ROW, and that of SEEN: BAD, -11, -12; the ROW first)")
    static void p18TheShelves() {
        refusedShelves("judge()", ThirdAfter::judge);
        for (int shelf = 0; shelf <= 5; shelf++) {
            for (int other = 0; other <= 5; other++) {
                ThirdAfter x = Markets.of(1, 1);
                Markets.comings(x, other, 8, 8);
                Markets.comings(x, shelf, 0, 0);
                Cases.due("judge(" + (10 * shelf + other) + ")", x.judge(10 * shelf + other),
                        shelf == other ? 0 : Cases.NOT);
            }
        }
    }

    @Says(promise = 18, value = "JUDGED: the first that is not so (more than come, too); NOT.")
    static void p18TheFirstThatIsNotSo() {
        int[] so = {8, 0, 1, 3};
        Cases.due("all is so", seen(so).get().judge(1), Cases.NOT);
        for (int place = 0; place < 4; place++) {
            for (int v : new int[] {so[place] + 1, so[place] - 1, -1, 2, 10, 127, -128}) {
                int[] by = so.clone();
                by[place] = v == 9 ? 7 : v;
                Cases.due("not so at " + place + ": " + by[place], seen(by).get().judge(1), place);
                by[3] = 5;
                Cases.due("the first of two", seen(by).get().judge(1), place);
            }
        }
    }

    @Says(promise = 18, value = "(more than come, too)")
    static void p18MoreThanCome() {
        Cases.due("as many as come", seen(8, 0, 1, 3).get().judge(1), Cases.NOT);
        Cases.due("one more", seen(8, 0, 1, 3, 0).get().judge(1), 4);
        Cases.due("one more by nobody", seen(8, 0, 1, 3, 8).get().judge(1), 4);
        Cases.due("one more that is not seen", seen(8, 0, 1, 3, 9).get().judge(1), 4);
        Cases.due("sixty", seen(new int[60]).get().judge(1), 0);
        ThirdAfter x = Markets.of(1, 1);
        x.row(0, 0, 20);
        x.row(1, 0, 60);
        x.put(1, 0, 8);
        x.put(1, 1, 8);
        x.put(1, 2, 8);
        Cases.due("sixty of twenty", x.judge(1), 20);
        x.row(0, 0, 60);
        Cases.due("sixty of sixty, of which twenty come", x.judge(1), 20);
        ThirdAfter none = seen(9).get();
        none.row(0, 0, 0);
        Cases.due("one of none", none.judge(1), 0);
        Cases.due("none of none", none.judge(0), Cases.NOT);
    }

    @Says(promise = 18, value = "(as told; 9: not seen)")
    static void p18NotSeen() {
        Cases.due("none is seen", seen().get().judge(1), Cases.NOT);
        Cases.due("the first alone", seen(8).get().judge(1), Cases.NOT);
        Cases.due("all is 9", seen(9, 9, 9, 9).get().judge(1), Cases.NOT);
        Cases.due("9 ahead", seen(9, 0).get().judge(1), Cases.NOT);
        Cases.due("9 behind", seen(8, 9).get().judge(1), Cases.NOT);
        Cases.due("9 between, one that is not so behind", seen(8, 9, 9, 0).get().judge(1), 3);
        Cases.due("8 is seen", seen(9, 8).get().judge(1), 1);
        Cases.due("10 is seen", seen(9, 10).get().judge(1), 1);
        Cases.refused(() -> {
            ThirdAfter nobody = new ThirdAfter();
            nobody.row(0, 0, 3);
            nobody.row(1, 0, 0);
            return nobody;
        }, "judge() where nobody is", x -> x.judge(1), Cases.NOT);
    }

    // ---- fits

    @Says(promise = 19,
            value = "THIRDS (what 0: bits), WHOSE at a place (1: bits; number the place: 0 .. how many come less 1), "
                    + "WANTED of one (2: how many, 3: the least; NOT; number he; 0 for THIRDS). BAD, -11, -12.")
    static void p19ShelvesAndWhat() {
        for (int what = 0; what <= 3; what++) {
            int w = what;
            refusedShelves("fits() of what " + what, (x, ss) -> x.fits(ss, 0, w));
        }
        Cases.refusedBeyond("fits(1, 0, ..)", 0, 3, (x, w) -> x.fits(1, 0, w), Cases.BAD);
        Cases.refused("BAD ahead of -11", x -> x.fits(33, 0, 4), Cases.BAD);
        Cases.refused("BAD ahead of -12", x -> x.fits(44, 1, 0), Cases.BAD);
    }

    @Says(promise = 19,
            value = "(ss: 10 times the SHELF of the ROW, and that of SEEN: BAD, -11, -12; the ROW first)")
    static void p19TheRowsAndSeensShelves() {
        for (int shelf = 0; shelf <= 5; shelf++) {
            for (int other = 0; other <= 5; other++) {
                ThirdAfter x = Markets.four();
                Markets.comings(x, other, 8, 2);
                Markets.comings(x, shelf, 0, 1);
                int ss = 10 * shelf + other;
                boolean own = shelf == other;
                Cases.due("THIRDS of " + ss, x.fits(ss, 0, 0), 0);
                Cases.due("WHOSE of " + ss, x.fits(ss, 0, 1), own ? 0 : 4);
                Cases.due("WHOSE of " + ss + " at 1", x.fits(ss, 1, 1), 0);
                Cases.due("WANTED of " + ss, x.fits(ss, 0, 2), 0);
                Cases.due("the least of " + ss, x.fits(ss, 0, 3), Cases.NOT);
            }
        }
    }

    @Says(promise = 19, value = "0 for THIRDS")
    static void p19Number0ForThirds() {
        Cases.due("fits(1, 0, 0)", seen(8, 0).get().fits(1, 0, 0), 1 << 1);
        Cases.refusedBeyond(seen(8, 0), "fits(1, .., 0)", 0, 0, (x, n) -> x.fits(1, n, 0), Cases.BAD);
    }

    @Says(promise = 19, value = "number the place: 0 .. how many come less 1")
    static void p19APlaceThatIsThere() {
        Cases.due("the first", seen(8, 0, 1, 3).get().fits(1, 0, 1), 1);
        Cases.due("the last", seen(8, 0, 1, 3).get().fits(1, 3, 1), 15);
        Cases.refusedBeyond(seen(8, 0, 1, 3), "fits(1, .., 1)", 0, 3, (x, n) -> x.fits(1, n, 1), Cases.BAD);
        ThirdAfter long20 = Markets.of(1, 1, 1, 1);
        long20.row(0, 0, 60);
        long20.row(1, 0, 0);
        Cases.due("the last of 20", long20.fits(1, 19, 1), 3);
        Cases.due("the 21st", long20.fits(1, 20, 1), Cases.BAD);
        ThirdAfter none = seen().get();
        none.row(0, 0, 0);
        Cases.due("of none", none.fits(1, 0, 1), Cases.BAD);
        Markets.comings(none, 0, 0, 0, 4, 0);
        Cases.due("the last ahead of its end", none.fits(1, 1, 1), 15);
        Cases.due("its end", none.fits(1, 2, 1), Cases.BAD);
    }

    @Says(promise = 19, value = "WANTED of one (2: how many, 3: the least; NOT; number he")
    static void p19OneThatIsThere() {
        for (int what = 2; what <= 3; what++) {
            int w = what;
            Cases.refusedBeyond(seen(8, 0), "fits(1, .., " + what + ")", 0, 3, (x, n) -> x.fits(1, n, w), Cases.BAD);
            Cases.due("the last one", seen(8, 0).get().fits(1, 3, what), what == 2 ? 10 : 0);
        }
        ThirdAfter nobody = new ThirdAfter();
        nobody.row(0, 0, 0);
        Cases.due("WANTED where nobody is", nobody.fits(0, 0, 2), Cases.BAD);
        Cases.due("WHOSE where nobody is", nobody.fits(0, 0, 1), Cases.BAD);
        Cases.due("THIRDS where nobody is", nobody.fits(0, 0, 0), 62);
    }

    @Says(promise = 19, value = "THIRDS: by which THIRD (bits 1 .. 5) all is so.")
    static void p19ThirdsFrom1To5() {
        // 7 comings by unlike ones: the k-th is paid by the (k - THIRD)-th
        for (int third = 1; third <= 5; third++) {
            ThirdAfter x = Markets.eight();
            Markets.comings(x, 0, 0, 1, 2, 3, 4, 5, 6);
            Markets.comings(x, 1, 9, 9, 9, 9, 9, 9, 6 - third);
            Cases.due("THIRDS by the last", x.fits(1, 0, 0), 1 << third);
            Markets.comings(x, 1, 9, 9, 9, 9, 9, 5 - third);
            Cases.due("THIRDS by the sixth", x.fits(1, 0, 0), 1 << third);
            Markets.comings(x, 1, 9, 9, 9, 9, 9, 9, 0);
            Cases.due("none, as it would be the 6th", x.fits(1, 0, 0), 0);
            int[] nobody = new int[third];
            java.util.Arrays.fill(nobody, 8);
            Markets.comings(x, 1, nobody);
            int bits = 0;
            for (int t = third; t <= 5; t++) {
                bits |= 1 << t;
            }
            Cases.due("nobody pays the first " + third, x.fits(1, 0, 0), bits);
            Cases.due("THIRD stays", x.of(0, 4), 3);
        }
    }

    @Says(promise = 19,
            value = "WHOSE: by which BUYERS (bits), coming at a told place of the ROW instead, all is so.")
    static void p19WhoseBits() {
        ThirdAfter x = Markets.eight();
        x.mend(0, 4, 1);
        Markets.comings(x, 0, 0, 0, 0);
        for (int one = 0; one <= 7; one++) {
            Markets.comings(x, 1, 8, one);
            Cases.due("WHOSE by " + one, x.fits(1, 0, 1), 1 << one);
        }
        Markets.comings(x, 1, 8, 9, 0);
        Cases.due("WHOSE of eight, any", x.fits(1, 0, 1), 255);
        Markets.comings(x, 1, 0);
        Cases.due("WHOSE of eight, none", x.fits(1, 0, 1), 0);
        ThirdAfter y = seen(8, 0, 2).get();
        Cases.due("of four, at 1: 2 instead", y.fits(1, 1, 1), 4);
        Cases.due("the ROW stays", y.element(0, 1), 1);
        Markets.comings(y, 1, 8, 0, 7);
        Cases.due("of four, 7 is not there", y.fits(1, 1, 1), 0);
    }

    @Says(promise = 19, value = "WANTED: by how many WANTS (0 .. 9) of one all is so; the least (NOT).")
    static void p19WantedOfAllOrOfNone() {
        ThirdAfter x = seen(8, 0, 1, 3).get();
        for (int one = 0; one <= 3; one++) {
            Cases.due("WANTED of " + one, x.fits(1, one, 2), 10);
            Cases.due("the least", x.fits(1, one, 3), 0);
        }
        ThirdAfter y = seen(8, 0, 1, 2).get();
        for (int one = 0; one <= 3; one++) {
            Cases.due("WANTED of " + one, y.fits(1, one, 2), 0);
            Cases.due("the least", y.fits(1, one, 3), Cases.NOT);
        }
        Cases.due("WANTS stay", y.of(3, 1), 9);
        Cases.refused(seen(0), "the least of none", z -> z.fits(1, 0, 3), Cases.NOT);
    }

    @Says(promise = 19, value = "SEEN: a ROW of bytes: by whom each of the comings of another ROW is paid")
    static void p19MoreThanComeIsNotSo() {
        int[][] longer = {{8, 0, 1, 3, 9}, {9, 9, 9, 9, 9}, {8, 0, 1, 3, 0}};
        for (int[] by : longer) {
            Cases.due("THIRDS", seen(by).get().fits(1, 0, 0), 0);
            Cases.due("WHOSE", seen(by).get().fits(1, 0, 1), 0);
            Cases.due("WANTED", seen(by).get().fits(1, 0, 2), 0);
            Cases.due("the least", seen(by).get().fits(1, 0, 3), Cases.NOT);
        }
        Cases.due("none seen: any THIRD", seen().get().fits(1, 0, 0), 62);
        Cases.due("none seen: any one", seen().get().fits(1, 0, 1), 15);
    }

    // ---- byTurns

    private static ThirdAfter brothers() {
        ThirdAfter x = Markets.four();
        x.comes(3);
        return x;
    }

    @Says(promise = 20,
            value = "two brothers, n (1 .. 5) times in all, the one first, each comes in (in thought, one behind the "
                    + "other, from THE BOOK) or stays out")
    static void p20From1To5Times() {
        ThirdAfter x = brothers();
        // 0 takes 54, owes 20 then, which 1 takes: owing 10, which 0 takes, and so on
        Cases.due("once", x.byTurns(1, 1, 0), 54);
        Cases.due("twice", x.byTurns(1, 2, 0), 14);
        Cases.due("once, the other", x.byTurns(10, 1, 0), 54);
        Cases.due("twice, the other", x.byTurns(10, 2, 0), 34);
        for (int n = 1; n <= 5; n++) {
            Cases.due("he comes in first of " + n, x.byTurns(1, n, 1), 1);
        }
        Cases.refusedBeyond(SeenCases::brothers, "byTurns(1, .., 0)", 1, 5, (y, n) -> y.byTurns(1, n, 0), Cases.VOID);
        Cases.refusedBeyond(SeenCases::brothers, "byTurns(1, .., 1)", 1, 5, (y, n) -> y.byTurns(1, n, 1), Cases.VOID);
        Cases.refused("byTurns() of five", y -> y.byTurns(1, 5, 0) == Cases.VOID ? 1 : 0, 0);
    }

    @Says(promise = 20,
            value = "the one wants his PURSE less the other's most, the other one least: that, if both do their best")
    static void p20TheLeastAndTheMost() {
        ThirdAfter x = Markets.alike(0, 999, 0);
        for (int n = 1; n <= 5; n++) {
            Cases.due("999 less 0", x.byTurns(1, n, 0), 999);
            Cases.due("0 less 999", x.byTurns(10, n, 0), -999);
        }
        ThirdAfter dog = Markets.four();
        dog.comes(3);
        dog.mend(0, 3, 1);
        dog.mend(0, 5, 0);
        Cases.due("a DOG takes nothing", dog.byTurns(1, 1, 0), 0);
        Cases.due("a DOG may as well stay out", dog.byTurns(1, 1, 1), 0);
        Cases.due("his brother takes it", dog.byTurns(1, 2, 0), -54);
    }

    /** Best play of both by deeds, each way through on a market of its own. */
    private static int played(Supplier<ThirdAfter> made, int[] brothers, int n, int turn, int choices) {
        if (turn == n) {
            ThirdAfter x = made.get();
            for (int i = 0; i < n; i++) {
                if ((choices >> i & 1) == 1) {
                    x.comes(brothers[i % 2]);
                }
            }
            return x.of(brothers[0], 0) - x.of(brothers[1], 0);
        }
        int out = played(made, brothers, n, turn + 1, choices);
        int in = played(made, brothers, n, turn + 1, choices | 1 << turn);
        return turn % 2 == 0 ? Math.max(out, in) : Math.min(out, in);
    }

    private static ThirdAfter brothersByALaw(String text, int third) {
        ThirdAfter x = Markets.of(4, 3, 2, 8, 7, 1, 5, 5);
        Markets.law(x, text);
        x.mend(0, 4, 5);
        Markets.comeIn(x, 3, 0, 2, 1);
        x.mend(0, 4, third);
        return x;
    }

    @Says(promise = 20, value = "that, if both do their best")
    static void p20AsByDeeds() {
        for (String text : new String[] {"n*37%29", "p%17*3", "w*7-h+o*9", "n*n*5%31+w"}) {
            for (int third = 1; third <= 5; third++) {
                int t = third;
                Supplier<ThirdAfter> made = () -> brothersByALaw(text, t);
                for (int ab : new int[] {1, 10, 13, 31, 20, 32}) {
                    for (int n = 1; n <= 5; n++) {
                        int[] brothers = {ab / 10, ab % 10};
                        int out = played(made, brothers, n, 1, 0);
                        int in = played(made, brothers, n, 1, 1);
                        String call = "byTurns(" + ab + ", " + n + ", ..) by " + text + ", THIRD " + third;
                        Cases.due(call, made.get().byTurns(ab, n, 0), Math.max(out, in));
                        Cases.due(call + ", first", made.get().byTurns(ab, n, 1), in > out ? 1 : 0);
                    }
                }
            }
        }
    }

    @Says(promise = 20, value = "whether the one comes in first (1, 0; of like ones 0)")
    static void p20OfLikeOnes0() {
        ThirdAfter like = Markets.alike(0, 100, 100);
        for (int n = 1; n <= 5; n++) {
            Cases.due("all alike, of " + n, like.byTurns(1, n, 1), 0);
            Cases.due("all alike, of " + n + ", that", like.byTurns(1, n, 0), 0);
        }
        Cases.due("54 more", brothers().byTurns(1, 1, 1), 1);
        ThirdAfter own = Markets.four();
        own.comes(0);
        Cases.due("of himself", own.byTurns(1, 1, 1), 0);
        ThirdAfter worse = Markets.four();
        Cases.due("he would owe 20", worse.byTurns(1, 2, 1), 0);
        Cases.due("he would owe 20, that", worse.byTurns(1, 2, 0), 0);
    }

    @Says(promise = 20,
            value = "BY TURNS (ab: 10 times the one, and the other, unlike): that (what 0), whether he comes in (1). "
                    + "VOID: BAD.")
    static void p20TwoUnlikeOnes() {
        for (int ab : new int[] {-1, -10, 0, 11, 33, 4, 14, 34, 40, 43, 44, 9, 90, 100, 103, Cases.LOW, Cases.HIGH}) {
            Cases.refused("byTurns(" + ab + ", 1, 0)", x -> x.byTurns(ab, 1, 0), Cases.VOID);
            Cases.refused("byTurns(" + ab + ", 5, 1)", x -> x.byTurns(ab, 5, 1), Cases.VOID);
        }
        Cases.refusedBeyond("byTurns(1, 1, ..)", 0, 1, (x, w) -> x.byTurns(1, 1, w), Cases.VOID);
        Cases.due("3 and 2", brothers().byTurns(32, 1, 0), 0);
        Cases.due("2 and 3, who pays him", brothers().byTurns(23, 1, 0), 108);
        ThirdAfter x = Markets.eight();
        x.mend(7, 0, 200);
        Cases.due("7 and 6 of eight", x.byTurns(76, 1, 0), 100);
        Cases.due("6 and 7 of eight", x.byTurns(67, 1, 0), -100);
        Cases.due("7 and 8 of eight", x.byTurns(78, 1, 0), Cases.VOID);
        Cases.due("8 and 7 of eight", x.byTurns(87, 1, 0), Cases.VOID);
        Cases.refused(Markets::nobody, "byTurns() of nobody", y -> y.byTurns(1, 1, 0), Cases.VOID);
        Cases.refused(() -> Markets.of(1, 1), "byTurns() of one", y -> y.byTurns(1, 1, 0), Cases.VOID);
    }

    // ---- drawn

    private static int next(int z) {
        return z * 1103515245 + 12345;
    }

    /** LACKING of n markets of m comings of two without a coin, each of whom buys for 1 whenever he comes. */
    private static int unlikeNeighbours(int seed, int n, int m) {
        int z = seed, all = 0;
        for (int i = 0; i < n; i++) {
            int ahead = -1;
            for (int k = 0; k < m; k++) {
                z = next(z);
                int who = (z >>> 8) % 2;
                all += ahead >= 0 && ahead != who ? 1 : 0;
                ahead = who;
            }
        }
        return all;
    }

    @Says(promise = 21, value = "DRAWN: n markets (1 .. 30) of m comings (1 .. 60) from now by a SEED")
    static void p21MarketsAndComings() {
        for (int n : new int[] {1, 2, 29, 30}) {
            for (int m : new int[] {1, 2, 3, 59, 60}) {
                ThirdAfter x = Markets.alike(1, 0, 0);
                Cases.due("LACKING of " + n + " markets of " + m, x.drawn(5, 10000 * n + 100 * m, -1),
                        unlikeNeighbours(5, n, m));
                Cases.due("PURSE of " + n + " markets of " + m, x.drawn(5, 10000 * n + 100 * m, 0), 0);
            }
        }
        for (int nmd : new int[] {0, 1, 12, 100, 6000, 9999, 310100, 316012, 990100, 10000, 10012, 300000, 16100,
            306100, 19900, 10113, 10199, 306013, 306099, -1, -10100, Cases.LOW, Cases.HIGH}) {
            Cases.refused("drawn(5, " + nmd + ", -1)", x -> x.drawn(5, nmd, -1), Cases.BAD);
            Cases.refused("drawn(5, " + nmd + ", 0)", x -> x.drawn(5, nmd, 0), Cases.BAD);
            Cases.refused(Markets::nobody, "drawn(5, " + nmd + ", -1) of nobody", x -> x.drawn(5, nmd, -1), Cases.BAD);
        }
    }

    @Says(promise = 21, value = "DRAWN (nmd: 10000 n, 100 m, and DUSK): PURSE of one, LACKING (one -1). BAD.")
    static void p21OneFromMinus1() {
        Cases.refusedBeyond("drawn(5, 10100, ..)", -1, 3, (x, n) -> x.drawn(5, 10100, n), Cases.BAD);
        Cases.refusedBeyond(Markets::eight, "drawn(5, 10100, ..) of eight", -1, 7, (x, n) -> x.drawn(5, 10100, n),
                Cases.BAD);
        Cases.refusedBeyond(Markets::nobody, "drawn(5, 10100, ..) of nobody", -1, -1, (x, n) -> x.drawn(5, 10100, n),
                Cases.BAD);
        ThirdAfter x = Markets.eight();
        x.mend(7, 0, 999);
        Cases.due("the last one", x.drawn(5, 300100, 7), 30 * 999);
        Cases.due("LACKING of nobody", new ThirdAfter().drawn(5, 306012, -1), 0);
        Cases.refused("drawn()", y -> y.drawn(5, 306012, -1) < 0 ? 1 : 0, 0);
    }

    @Says(promise = 21, value = "z = z * 1103515245 + 12345 (an int; SEED at first) ahead of each")
    static void p21AnySeed() {
        for (int seed : new int[] {0, 1, -1, Cases.LOW, Cases.HIGH, 12345, -1103515245}) {
            ThirdAfter x = Markets.alike(1, 0, 0);
            Cases.due("by SEED " + seed, x.drawn(seed, 306000, -1), unlikeNeighbours(seed, 30, 60));
        }
    }

    @Says(promise = 21, value = "BUYER (z >>> 8) % how many comes in")
    static void p21WhoComes() {
        for (int many = 2; many <= 8; many++) {
            int[] purses = new int[many];
            java.util.Arrays.fill(purses, 100);
            for (int seed : new int[] {3, 4, Cases.LOW, Cases.HIGH, -7}) {
                int z = next(seed);
                int first = (z >>> 8) % many;
                int second = (next(z) >>> 8) % many;
                ThirdAfter x = Markets.alike(7, purses);
                int moved = first == second ? 0 : 7;
                Cases.due("he who pays of " + many, x.drawn(seed, 10200, first), 100 - moved);
                Cases.due("he who is paid of " + many, x.drawn(seed, 10200, second), 100 + moved);
            }
        }
    }

    @Says(promise = 21, value = "an EVENING is ahead of it, if (z >>> 16) % 12 is below DUSK (0 .. 12, told)")
    static void p21WhatIsBelowDusk() {
        int looked = 0;
        for (int seed = 1; seed <= 60; seed++) {
            int z = next(seed * 7919);
            int below = (z >>> 16) % 12;
            int first = (z >>> 8) % 2;
            int second = (next(z) >>> 8) % 2;
            if (first != second) {
                looked++;
                for (int dusk = 0; dusk <= 12; dusk++) {
                    ThirdAfter x = Markets.of(3, 5, 3, 5);
                    x.mend(0, 0, 0);
                    x.mend(1, 0, 0);
                    x.mend(0, 4, 1);
                    Markets.law(x, "d*10+5");
                    Cases.due("what the first lacks by DUSK " + dusk + " and " + below,
                            x.drawn(seed * 7919, 10200 + dusk, -1), below < dusk ? 15 : 5);
                }
            }
        }
        Cases.due("enough were looked at", looked > 20 ? 1 : 0, 1);
    }

    @Says(promise = 21, value = "of m comings (1 .. 60) from now by a SEED")
    static void p21EachFromNow() {
        ThirdAfter x = Markets.of(3, 5);
        Markets.law(x, "n*10+5");
        x.mend(0, 4, 5);
        Markets.comeIn(x, 0, 0);
        // one buyer is paid by himself alone, so his PURSE stays
        Cases.due("PURSE", x.drawn(9, 306012, 0), 3000);
        ThirdAfter y = Markets.alike(1, 0, 50);
        y.comes(0);
        int first = (next(9) >>> 8) % 2;
        Cases.due("THE BOOK's debt lacks in each market", y.drawn(9, 10100, -1), first == 1 ? 1 : 0);
        int z = next(9), all = 0;
        for (int i = 0; i < 30; i++) {
            all += (z >>> 8) % 2;
            z = next(z);
        }
        Cases.due("of thirty", y.drawn(9, 300100, -1), all);
        Cases.due("all is as it was", y.count(1) * 1000 + y.of(0, 6), 1000);
    }
}
