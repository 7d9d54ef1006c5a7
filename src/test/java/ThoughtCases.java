import java.util.function.Consumer;
import java.util.function.Supplier;

/** Boundary cases of promises 9 to 17: what is thought of ROWS of comings. */
final class ThoughtCases {
    private static final String ORDER = "Answers, of several the one named first: BAD (-1): no such number, or it is "
            + "not as said; NOT (-2): as told; FULL (-3); STATE (-5): as told; -11 to -14.";

    private ThoughtCases() { }

    /** Four() with a ROW on SHELF 0. */
    private static Supplier<ThirdAfter> fourWith(int... who) {
        return () -> {
            ThirdAfter x = Markets.four();
            Markets.comings(x, 0, who);
            return x;
        };
    }

    /** Four() with a ROW on SHELF 0 in which 2, who buys for 0, comes n times ahead of others. */
    private static Supplier<ThirdAfter> fourWithLong(int n, int... others) {
        return () -> {
            ThirdAfter x = Markets.four();
            Markets.comings(x, 0, others, 2, n);
            return x;
        };
    }

    private static Supplier<ThirdAfter> nobodyWith(int n) {
        return () -> {
            ThirdAfter x = new ThirdAfter();
            x.row(0, 0, n);
            return x;
        };
    }

    // ---- a row of comings

    @Says(promise = {9, 10}, value = "a ROW of bytes on a SHELF (20 at most; it ends with what is no BUYER)")
    static void p09TwentyAtMost() {
        int[] lengths = {0, 1, 19, 20, 21, 60};
        for (int n : lengths) {
            ThirdAfter x = Markets.of(1, 1);
            x.row(0, 0, n);
            Cases.due("how many come of " + n, x.market(0, 0, 0), Math.min(n, 20));
            Cases.due("the last", x.coming(0, Math.min(n, 20) - 1, 0), n == 0 ? Cases.BAD : n < 4 ? 8 : 0);
            Cases.due("behind the last", x.coming(0, Math.min(n, 20), 0), Cases.NOT);
        }
        // the 21st would pay and be paid
        ThirdAfter x = fourWithLong(19, 3, 0).get();
        Cases.due("PURSE of the 21st", x.market(0, 0, 3), 100);
        Cases.due("PURSE of the 20th", x.market(0, 3, 3), 100);
        ThirdAfter y = fourWithLong(18, 3, 0).get();
        Cases.due("PURSE of the 20th", y.market(0, 0, 3), 154);
    }

    @Says(promise = {9, 10}, value = "it ends with what is no BUYER")
    static void p09ItEndsWithWhatIsNoBuyer() {
        for (int v : new int[] {4, 5, 8, 9, -1, 127, -128}) {
            for (int place = 0; place <= 3; place++) {
                int[] who = {3, 0, 1, 3};
                who[place] = v;
                ThirdAfter x = fourWith(who).get();
                Cases.due("how many come up to " + v + " at " + place, x.market(0, 0, 0), place);
                Cases.due("coming(0, " + place + ", 0)", x.coming(0, place, 0), Cases.NOT);
            }
        }
        Cases.due("the greatest one that is there", fourWith(3, 3, 3).get().market(0, 0, 0), 3);
        ThirdAfter x = Markets.eight();
        Markets.comings(x, 0, 0, 7, 8, 0);
        Cases.due("7 of eight comes, 8 does not", x.market(0, 0, 0), 2);
        ThirdAfter y = fourWith(0, 4, 0).get();
        y.buyer(1, 1);
        Cases.due("he who is there by now comes", y.market(0, 0, 0), 3);
        for (int n : new int[] {0, 1, 60}) {
            Cases.due("how many come where nobody is", nobodyWith(n).get().market(0, 0, 0), 0);
        }
    }

    // ---- market

    @Says(promise = 9,
            value = "How many come (what 0), LACKING (1), how many are open then (2), PURSE of one (3; one 0 for the "
                    + "others). BAD, -11, -12 (no ROW of bytes).")
    static void p09WhatFrom0To3() {
        ThirdAfter x = fourWith(0, 1, 2).get();
        x.mend(0, 0, 15);
        int[] due = {3, 5, 1, 0};
        for (int what = 0; what <= 3; what++) {
            Cases.due("market(0, 0, " + what + ")", x.market(0, 0, what), due[what]);
        }
        Cases.refusedBeyond("market(0, 0, ..)", 0, 3, (y, w) -> y.market(0, 0, w), Cases.BAD);
        Cases.refusedButBytes("market()", (y, s) -> y.market(s, 0, 0));
        Cases.refusedButBytes("market() of a PURSE", (y, s) -> y.market(s, 0, 3));
        Cases.refused("BAD ahead of -11", y -> y.market(3, 1, 0), Cases.BAD);
        Cases.refused("BAD ahead of -12", y -> y.market(4, 4, 3), Cases.BAD);
    }

    @Says(promise = 9, value = "PURSE of one (3; one 0 for the others)")
    static void p09One0ForTheOthers() {
        for (int what = 0; what <= 2; what++) {
            int w = what;
            Cases.refusedBeyond("market(0, .., " + what + ")", 0, 0, (x, n) -> x.market(0, n, w), Cases.BAD);
        }
        Cases.refusedBeyond("market(0, .., 3)", 0, 3, (x, n) -> x.market(0, n, 3), Cases.BAD);
        Cases.refusedBeyond(() -> {
            ThirdAfter x = Markets.eight();
            x.row(0, 0, 2);
            return x;
        }, "market(0, .., 3) of eight", 0, 7, (x, n) -> x.market(0, n, 3), Cases.BAD);
        Cases.refused(nobodyWith(3), "PURSE of nobody", x -> x.market(0, 0, 3), Cases.BAD);
        Cases.due("how many are open where nobody is", nobodyWith(3).get().market(0, 0, 2), 0);
        Cases.due("LACKING where nobody is", nobodyWith(3).get().market(0, 0, 1), 0);
    }

    @Says(promise = 9,
            value = "by a ROW, from THE BOOK as it is: how many come; PURSE of one behind it; LACKING; how many are "
                    + "open then")
    static void p09NoneCome() {
        ThirdAfter x = fourWith().get();
        x.mend(0, 4, 5);
        x.mend(0, 0, 5);
        Markets.comeIn(x, 0, 1, 2, 0, 1);
        Cases.due("open behind none", x.market(0, 0, 2), 5);
        Cases.due("LACKING of none", x.market(0, 0, 1), 0);
        Cases.due("PURSE behind none", x.market(0, 1, 3), 100);
        Markets.comings(x, 0, 3);
        Cases.due("open behind one", x.market(0, 0, 2), 5);
        Cases.due("LACKING by THE BOOK", x.market(0, 0, 1), 15);
        x.mend(0, 4, 1);
        Cases.due("open by a THIRD made less", x.market(0, 0, 2), 1);
        Markets.comings(x, 0, 4);
        Cases.due("nobody is paid as none come", x.market(0, 0, 2), 5);
    }

    @Says(promise = 9, value = "LACKING; how many are open then")
    static void p09LackingOfTheRowAlone() {
        ThirdAfter x = fourWith(0, 1).get();
        x.mend(0, 0, 0);
        Markets.comeIn(x, 0, 1);
        Cases.due("LACKING in deed", x.led(2), 20);
        Cases.due("LACKING of the ROW: 1's pays 0, 0's 18 of 10", x.market(0, 0, 1), 8);
    }

    // ---- coming

    @Says(promise = 10,
            value = "Of the k-th coming: who pays him (what 0; 8), how much in all (1), for how much he buys (2). "
                    + "NOT: there is none. BAD, -11, -12 (no ROW of bytes).")
    static void p10FromTheFirstToTheLast() {
        ThirdAfter x = fourWith(0, 1, 3, 2).get();
        int[][] due = {{8, 0, 20}, {0, 20, 10}, {1, 10, 54}, {3, 54, 0}};
        for (int k = 0; k < 4; k++) {
            for (int what = 0; what <= 2; what++) {
                Cases.due("coming(0, " + k + ", " + what + ")", x.coming(0, k, what), due[k][what]);
            }
        }
        for (int what = 0; what <= 2; what++) {
            int w = what;
            for (int k : new int[] {4, 19, 20, 21, Cases.HIGH}) {
                Cases.refused("coming(0, " + k + ", " + what + ")", y -> y.coming(0, k, w), Cases.NOT);
            }
            for (int k : new int[] {-1, Cases.LOW}) {
                Cases.refused("coming(0, " + k + ", " + what + ")", y -> y.coming(0, k, w), Cases.BAD);
            }
        }
        Cases.refusedBeyond("coming(0, 0, ..)", 0, 2, (y, w) -> y.coming(0, 0, w), Cases.BAD);
        Cases.refusedButBytes("coming()", (y, s) -> y.coming(s, 0, 0));
        Cases.refused("BAD ahead of NOT", y -> y.coming(0, 4, 3), Cases.BAD);
        Cases.refused("BAD ahead of -11", y -> y.coming(3, 0, 3), Cases.BAD);
        Cases.refused(nobodyWith(3), "coming() where nobody is", y -> y.coming(0, 0, 0), Cases.NOT);
    }

    @Says(promise = 10, value = "who pays the k-th coming (of the first debt he is paid; 8: nobody)")
    static void p10TheFirstDebtOrNobody() {
        ThirdAfter x = fourWith(1, 1).get();
        x.mend(0, 4, 3);
        Markets.comeIn(x, 1, 0, 3);
        x.mend(0, 4, 1);
        Cases.due("the first of three, himself", x.coming(0, 0, 0), 1);
        Cases.due("the two others pay", x.coming(0, 0, 1), 74);
        Cases.due("himself", x.coming(0, 1, 0), 1);
        Cases.due("nothing", x.coming(0, 1, 1), 0);
        x.mend(0, 4, 4);
        Cases.due("nobody as THIRD is greater", x.coming(0, 0, 0), 8);
        Cases.due("then again", x.coming(0, 1, 0), 1);
        ThirdAfter y = fourWith(2, 0, 1).get();
        y.mend(0, 0, 0);
        Cases.due("who owes 0 pays him", y.coming(0, 1, 0), 2);
        Cases.due("whose PURSE is empty pays him", y.coming(0, 2, 0), 0);
        Cases.due("nothing", y.coming(0, 2, 1), 0);
        ThirdAfter eight = Markets.eight();
        eight.mend(0, 4, 1);
        Markets.comings(eight, 0, 7, 0);
        Cases.due("the greatest one", eight.coming(0, 1, 0), 7);
    }

    @Says(promise = 10, value = "A DOG, as DOGS is 0, does not count")
    static void p10ADogInARow() {
        ThirdAfter x = fourWith(0, 1, 1, 2).get();
        x.mend(1, 3, 1);
        Cases.due("a DOG that counts", x.coming(0, 1, 0), 0);
        x.mend(0, 5, 0);
        for (int k = 1; k <= 2; k++) {
            Cases.due("who pays a DOG", x.coming(0, k, 0), 8);
            Cases.due("how much", x.coming(0, k, 1), 0);
            Cases.due("for how much he buys", x.coming(0, k, 2), 0);
        }
        Cases.due("who is paid instead", x.coming(0, 3, 1), 20);
        Cases.due("how many come", x.market(0, 0, 0), 4);
    }

    // ---- later

    /** Each day 0 owes 1 20, who lacks nothing, and 1 owes 0 10 the next morning. */
    private static Supplier<ThirdAfter> days() {
        return fourWith(0, 1);
    }

    @Says(promise = 11,
            value = "BEHIND n (0 .. 20) days of the same ROW (EVENINGS between): PURSE of one; LACKING of all.")
    static void p11From0To20Days() {
        int[] n = {0, 1, 2, 3, 8, 9, 20}, purse = {100, 80, 70, 60, 10, 0, 0}, lacking = {0, 0, 0, 0, 0, 0, 110};
        for (int i = 0; i < n.length; i++) {
            Cases.due("PURSE behind " + n[i], days().get().later(0, n[i], 0), purse[i]);
            Cases.due("LACKING behind " + n[i], days().get().later(0, n[i], -1), lacking[i]);
        }
        Cases.refusedBeyond("later(0, .., 0)", 0, 20, (x, v) -> x.later(0, v, 0), Cases.BAD);
        Cases.refusedButBytes("later()", (x, s) -> x.later(s, 1, 0));
        Cases.refused("a refused SHELF of no days", x -> x.later(3, 0, 0), Cases.MISSING);
        Cases.refused("BAD ahead of -11", x -> x.later(3, 21, 0), Cases.BAD);
        Cases.refused("BAD ahead of -12", x -> x.later(4, 1, 4), Cases.BAD);
    }

    @Says(promise = 11, value = "BEHIND n days: PURSE of one, LACKING (one -1). BAD, -11, -12 (no ROW of bytes).")
    static void p11OneFromMinus1() {
        Cases.refusedBeyond("later(0, 1, ..)", -1, 3, (x, n) -> x.later(0, 1, n), Cases.BAD);
        Cases.due("PURSE of the last one", days().get().later(0, 1, 3), 100);
        Cases.due("LACKING where nobody is", nobodyWith(3).get().later(0, 20, -1), 0);
        Cases.refused(nobodyWith(3), "PURSE where nobody is", x -> x.later(0, 20, 0), Cases.BAD);
        Cases.due("LACKING of no comings", fourWith().get().later(0, 20, -1), 0);
        Cases.due("PURSE of no comings", fourWith().get().later(0, 20, 3), 100);
    }

    @Says(promise = 11, value = "EVENINGS between")
    static void p11EveningsBetweenAlone() {
        ThirdAfter x = days().get();
        Markets.law(x, "d*10");
        // 1 is paid 10 for each day that went, and owes it in the morning
        int[] due = {100, 100, 110, 120, 130};
        for (int n = 0; n < due.length; n++) {
            Cases.due("PURSE behind " + n, x.later(0, n, 1), due[n]);
        }
        ThirdAfter y = days().get();
        Markets.law(y, "n*10+o");
        y.comes(3);
        Markets.comings(y, 0, 3, 0);
        Cases.due("n, o go on on the first day: 11 are owed", y.later(0, 1, 0), 111);
        Cases.due("they begin anew on the second: 20 in the morning, 0", y.later(0, 2, 0), 91);
    }

    @Says(promise = 11, value = "DAY is one more (99 stays)")
    static void p11DayOf99Stays() {
        ThirdAfter x = days().get();
        Markets.law(x, "d-90");
        x.mend(0, 6, 98);
        Cases.due("behind DAY 98", x.later(0, 1, 1), 108);
        Cases.due("behind DAY 99", x.later(0, 2, 1), 109);
        Cases.due("behind DAY 99 again", x.later(0, 3, 1), 109);
        Cases.due("DAY", x.of(0, 6), 98);
    }

    // ---- once more

    @Says(promise = 12,
            value = "at which place (0: ahead of all .. behind all) one more coming of his in the ROW (19 comings at "
                    + "most, else STATE) leaves him most in his PURSE")
    static void p12AheadOfAllOrBehindAll() {
        ThirdAfter x = fourWith(0).get();
        x.comes(3);
        Cases.due("ahead of all he takes 54 and owes 10", x.onceMore(0, 1, 1), 144);
        Cases.due("which", x.onceMore(0, 1, 0), 0);
        ThirdAfter y = fourWith(0, 1, 3).get();
        Cases.due("behind all he takes 54", y.onceMore(0, 2, 1), 154);
        Cases.due("which", y.onceMore(0, 2, 0), 3);
        ThirdAfter z = fourWith().get();
        Cases.due("of no comings", z.onceMore(0, 3, 0), 0);
        Cases.due("of no comings, that", z.onceMore(0, 3, 1), 100);
        z.comes(3);
        Cases.due("of no comings he takes THE BOOK's", z.onceMore(0, 1, 1), 154);
    }

    @Says(promise = 12, value = "(19 comings at most, else STATE)")
    static void p12NineteenComings() {
        ThirdAfter x = fourWithLong(18, 3).get();
        Cases.due("of 19, behind all", x.onceMore(0, 1, 0), 19);
        Cases.due("of 19, that", x.onceMore(0, 1, 1), 154);
        for (int what = 0; what <= 1; what++) {
            int w = what;
            Cases.refused(fourWithLong(19, 3), "onceMore() of 20", y -> y.onceMore(0, 1, w), Cases.STATE);
            Cases.refused(fourWithLong(20, 3), "onceMore() of 21", y -> y.onceMore(0, 1, w), Cases.STATE);
            Cases.refused(fourWithLong(60), "onceMore() of 60", y -> y.onceMore(0, 1, w), Cases.STATE);
        }
        Cases.due("of 21 of which 19 come", fourWithLong(19, 4, 2).get().onceMore(0, 1, 1), 100);
        Cases.refused(fourWithLong(20), "BAD ahead of STATE", y -> y.onceMore(0, 4, 0), Cases.BAD);
        Cases.refused(fourWithLong(20), "BAD ahead of STATE", y -> y.onceMore(0, 1, 2), Cases.BAD);
    }

    @Says(promise = 12, value = "which (of like ones the least); that")
    static void p12OfLikeOnesTheLeast() {
        ThirdAfter x = fourWith(2, 2, 2).get();
        Cases.due("all alike", x.onceMore(0, 2, 0), 0);
        ThirdAfter y = Markets.alike(7, 100, 100);
        Markets.comings(y, 0, 0, 1, 0, 1);
        Cases.due("anywhere but ahead of all", y.onceMore(0, 1, 0), 1);
        Cases.due("that", y.onceMore(0, 1, 1), 107);
    }

    @Says(promise = 12, value = "ONCE MORE: which (what 0), that (1). BAD, -11, -12 (no ROW of bytes); STATE.")
    static void p12OneAndWhat() {
        Cases.refusedBeyond("onceMore(0, .., 0)", 0, 3, (x, n) -> x.onceMore(0, n, 0), Cases.BAD);
        Cases.refusedBeyond("onceMore(0, 0, ..)", 0, 1, (x, w) -> x.onceMore(0, 0, w), Cases.BAD);
        Cases.refusedButBytes("onceMore()", (x, s) -> x.onceMore(s, 0, 0));
        Cases.refused("BAD ahead of -11", x -> x.onceMore(3, 4, 0), Cases.BAD);
        Cases.refused("BAD ahead of -12", x -> x.onceMore(4, 0, 2), Cases.BAD);
        Cases.refused(nobodyWith(1), "onceMore() of nobody", x -> x.onceMore(0, 0, 0), Cases.BAD);
    }

    // ---- hired

    @Says(promise = 13,
            value = "HIRED at a place (0 .. how many come): which (what 0), that (1). BAD, -11, -12 (no ROW of "
                    + "bytes); STATE.")
    static void p13From0ToHowManyCome() {
        ThirdAfter x = fourWith(2, 2).get();
        int[] which = {3, 3, 0}, that = {154, 154, 100};
        for (int place = 0; place <= 2; place++) {
            Cases.due("hired(0, " + place + ", 2, 0)", x.hired(0, place, 2, 0), which[place]);
            Cases.due("hired(0, " + place + ", 2, 1)", x.hired(0, place, 2, 1), that[place]);
        }
        Cases.refusedBeyond(fourWith(2, 2), "hired(0, .., 2, 0)", 0, 2, (y, p) -> y.hired(0, p, 2, 0), Cases.BAD);
        Cases.refusedBeyond(fourWith(), "hired(0, .., 2, 0) of no comings", 0, 0, (y, p) -> y.hired(0, p, 2, 0),
                Cases.BAD);
        Cases.refusedBeyond(fourWith(2, 2, 4, 2), "hired(0, .., 2, 1) of two comings", 0, 2,
                (y, p) -> y.hired(0, p, 2, 1), Cases.BAD);
        ThirdAfter none = fourWith().get();
        none.comes(3);
        Cases.due("of no comings, himself", none.hired(0, 0, 2, 0), 2);
        Cases.due("of no comings, that", none.hired(0, 0, 2, 1), 154);
    }

    @Says(promise = 13, value = "(moving the others back; 19 at most, else STATE)")
    static void p13NineteenComings() {
        ThirdAfter x = fourWithLong(18, 3).get();
        Cases.due("of 19, behind all, himself", x.hired(0, 19, 1, 0), 1);
        Cases.due("of 19, behind all, that", x.hired(0, 19, 1, 1), 154);
        Cases.due("of 19, ahead of all: the last moves to the 20th place", x.hired(0, 0, 2, 0), 3);
        for (int what = 0; what <= 1; what++) {
            int w = what;
            for (int place : new int[] {0, 19, 20}) {
                Cases.refused(fourWithLong(20), "hired() of 20 at " + place, y -> y.hired(0, place, 1, w), Cases.STATE);
                Cases.refused(fourWithLong(60), "hired() of 60 at " + place, y -> y.hired(0, place, 1, w), Cases.STATE);
            }
            Cases.refused(fourWithLong(18, 3), "hired() of 19 at 20", y -> y.hired(0, 20, 1, w), Cases.BAD);
            Cases.refused(fourWithLong(20), "BAD ahead of STATE, at 21", y -> y.hired(0, 21, 1, w), Cases.BAD);
            Cases.refused(fourWithLong(20), "BAD ahead of STATE, at -1", y -> y.hired(0, -1, 1, w), Cases.BAD);
        }
        Cases.refused(fourWithLong(20), "BAD ahead of STATE", y -> y.hired(0, 0, 4, 0), Cases.BAD);
    }

    @Says(promise = 13, value = "so that one has most (of like ones the least)")
    static void p13OfLikeOnesTheLeast() {
        Cases.due("all alike", fourWith(2).get().hired(0, 1, 3, 0), 0);
        ThirdAfter x = Markets.alike(7, 100, 100, 100);
        Markets.comings(x, 0, 0);
        Cases.due("1 or 2", x.hired(0, 0, 0, 0), 1);
        Cases.due("himself, as each other one takes 7", x.hired(0, 1, 0, 0), 0);
        Cases.due("1 or 2, where 1 has most by it", x.hired(0, 1, 1, 0), 1);
        x.mend(0, 0, 999);
        Cases.due("what is above 999 is lost: all alike", x.hired(0, 0, 0, 0), 0);
    }

    @Says(promise = 13, value = "which BUYER should come in at a told place of it")
    static void p13ABuyerThoughNobodyWereBetter() {
        ThirdAfter x = Markets.alike(0, 100, 0);
        Markets.law(x, "n*10+5");
        Markets.comings(x, 0, 0, 1);
        Cases.due("as it is 5 are owed", x.market(0, 0, 3), 95);
        Cases.due("by any one ahead 15 are", x.hired(0, 0, 0, 1), 85);
        Cases.due("of like ones the least", x.hired(0, 0, 0, 0), 0);
    }

    @Says(promise = 13, value = "which BUYER should come in at a told place of it")
    static void p13OneAndWhat() {
        Cases.refusedBeyond("hired(0, 0, .., 0)", 0, 3, (x, n) -> x.hired(0, 0, n, 0), Cases.BAD);
        Cases.refusedBeyond("hired(0, 0, 0, ..)", 0, 1, (x, w) -> x.hired(0, 0, 0, w), Cases.BAD);
        Cases.refusedButBytes("hired()", (x, s) -> x.hired(s, 0, 0, 0));
        Cases.refused("BAD ahead of -11", x -> x.hired(3, -1, 0, 0), Cases.BAD);
        Cases.refused("BAD ahead of -11", x -> x.hired(3, 0, 4, 0), Cases.BAD);
        Cases.refused("BAD ahead of -12", x -> x.hired(4, 0, 0, 2), Cases.BAD);
        Cases.refused(nobodyWith(1), "hired() of nobody", x -> x.hired(0, 0, 0, 0), Cases.BAD);
        ThirdAfter x = Markets.eight();
        x.mend(0, 4, 1);
        Markets.comings(x, 0, 0);
        Cases.due("the greatest one", x.hired(0, 0, 0, 0), 7);
    }

    // ---- latch

    @Says(promise = 14, value = "LATCH: the place (what 0; NOT), that (1). BAD, -11, -12 (no ROW of bytes).")
    static void p14NoTwoNeighbours() {
        for (int n = 0; n <= 1; n++) {
            ThirdAfter x = fourWithLong(0, new int[n]).get();
            Cases.due("latch() of " + n, x.latch(0, 0, 0), Cases.NOT);
            Cases.due("latch() of " + n + ", that", x.latch(0, 0, 1), 100);
        }
        ThirdAfter two = fourWith(1, 3).get();
        Cases.due("of two", two.latch(0, 1, 0), 0);
        Cases.due("of two, that", two.latch(0, 1, 1), 154);
        ThirdAfter ended = fourWith(1, 4, 3).get();
        Cases.due("of one, as it ends there", ended.latch(0, 1, 0), Cases.NOT);
    }

    @Says(promise = 14,
            value = "which two neighbours of the ROW, changed, leave one with more than as it is, most of all: the "
                    + "lesser place")
    static void p14TheFirstAndTheLastTwo() {
        ThirdAfter first = fourWith(1, 3, 2, 2).get();
        Cases.due("the first two", first.latch(0, 1, 0), 0);
        ThirdAfter last = fourWithLong(18, 1, 3).get();
        Cases.due("the last two of 20", last.latch(0, 1, 0), 18);
        Cases.due("the last two of 20, that", last.latch(0, 1, 1), 154);
        ThirdAfter beyond = fourWithLong(19, 1, 3).get();
        Cases.due("the 21st does not come", beyond.latch(0, 1, 0), Cases.NOT);
        Cases.due("the 21st does not come, that", beyond.latch(0, 1, 1), 100);
    }

    @Says(promise = 14, value = "(of like ones the least; NOT: none does); that (as it is, if none)")
    static void p14LikeAsItIsIsNotMore() {
        ThirdAfter x = fourWith(2, 2, 2).get();
        Cases.due("all alike", x.latch(0, 2, 0), Cases.NOT);
        Cases.due("as it is", x.latch(0, 2, 1), 100);
        ThirdAfter most = fourWith(0, 1, 3, 2).get();
        Cases.due("less by any", most.latch(0, 2, 0), Cases.NOT);
        Cases.due("as it is", most.latch(0, 2, 1), 154);
        ThirdAfter y = Markets.alike(7, 100, 100);
        Markets.comings(y, 0, 1, 0, 0, 1, 0);
        // he is paid 7 and pays 14, pays 7 less behind all, and is paid 7 more if not ahead of all
        Cases.due("as it is", y.market(0, 1, 3), 93);
        Cases.due("of 0 and 3, that leave him with the same", y.latch(0, 1, 0), 0);
        Cases.due("that", y.latch(0, 1, 1), 100);
    }

    @Says(promise = 14, value = "which two neighbours of the ROW")
    static void p14OneAndWhat() {
        Cases.refusedBeyond("latch(0, .., 0)", 0, 3, (x, n) -> x.latch(0, n, 0), Cases.BAD);
        Cases.refusedBeyond("latch(0, 0, ..)", 0, 1, (x, w) -> x.latch(0, 0, w), Cases.BAD);
        Cases.refusedButBytes("latch()", (x, s) -> x.latch(s, 0, 0));
        Cases.refused("BAD ahead of -11", x -> x.latch(3, 4, 0), Cases.BAD);
        Cases.refused("BAD ahead of -12", x -> x.latch(4, 0, 2), Cases.BAD);
        Cases.refused(nobodyWith(2), "latch() of nobody", x -> x.latch(0, 0, 0), Cases.BAD);
    }

    // ---- order

    @Says(promise = 15, value = "in which order told ones (bits; 5 at most, else STATE) come, each once")
    static void p15FiveAtMost() {
        ThirdAfter x = Markets.eight();
        x.mend(0, 4, 1);
        Cases.due("five, that: 0 is paid 48 by 7", x.order(0b11110001, 0, -1), 148);
        Cases.due("five, the fifth", x.order(0b11110001, 0, 4), 0);
        Cases.due("five, the fourth", x.order(0b11110001, 0, 3), 7);
        for (int k = -1; k <= 5; k++) {
            int place = k;
            Cases.refused(Markets::eight, "order() of six, " + k, y -> y.order(0b11110011, 0, place), Cases.STATE);
        }
        Cases.refused(Markets::eight, "order() of eight", y -> y.order(255, 0, -1), Cases.STATE);
        Cases.refused(Markets::eight, "BAD ahead of STATE", y -> y.order(255, 8, -1), Cases.BAD);
        Cases.refused(Markets::eight, "BAD ahead of STATE", y -> y.order(255, 0, -2), Cases.BAD);
    }

    @Says(promise = 15, value = ORDER)
    static void p15NotIsAheadOfState() {
        Cases.refused(Markets::eight, "order() of six, the seventh", x -> x.order(0b11110011, 0, 6), Cases.NOT);
        Cases.refused(Markets::eight, "order() of eight, the ninth", x -> x.order(255, 0, 8), Cases.NOT);
    }

    @Says(promise = 15, value = "ORDER (set: bits of BUYERS): that (k -1), the k-th (NOT: there are not as many). BAD; "
            + "STATE.")
    static void p15BitsOfThoseThatCame() {
        ThirdAfter x = Markets.four();
        Cases.due("none told", x.order(0, 1, -1), 100);
        Cases.due("all four, the first", x.order(15, 1, 0), 0);
        Cases.due("the last one alone", x.order(8, 1, 0), 3);
        Cases.refusedBeyond("order(.., 1, -1)", 0, 15, (y, s) -> y.order(s, 1, -1), Cases.BAD);
        Cases.refused("order(16 + 1, 1, -1)", y -> y.order(17, 1, -1), Cases.BAD);
        Cases.refusedBeyond(Markets::eight, "order(.., 1, -1) of eight", 0, 255, (y, s) -> y.order(s, 1, -1),
                Cases.BAD);
        Cases.refusedBeyond("order(3, .., -1)", 0, 3, (y, n) -> y.order(3, n, -1), Cases.BAD);
        Cases.refused(Markets::nobody, "order() of nobody", y -> y.order(0, 0, -1), Cases.BAD);
    }

    @Says(promise = 15, value = "that (k -1), the k-th (NOT: there are not as many)")
    static void p15TheKth() {
        ThirdAfter x = Markets.four();
        int[] due = {154, 0, 3, 1};
        for (int k = -1; k <= 2; k++) {
            Cases.due("order(11, 1, " + k + ")", x.order(0b1011, 1, k), due[k + 1]);
        }
        for (int k : new int[] {3, 4, 5, Cases.HIGH}) {
            Cases.refused(Markets::four, "order(11, 1, " + k + ")", y -> y.order(0b1011, 1, k), Cases.NOT);
        }
        for (int k : new int[] {-2, Cases.LOW}) {
            Cases.refused(Markets::four, "order(11, 1, " + k + ")", y -> y.order(0b1011, 1, k), Cases.BAD);
        }
        Cases.refused(Markets::four, "none told, the first", y -> y.order(0, 1, 0), Cases.NOT);
        Cases.refused(Markets::four, "one told, the second", y -> y.order(8, 1, 1), Cases.NOT);
        Cases.refused(Markets::four, "BAD ahead of NOT", y -> y.order(11, 4, 3), Cases.BAD);
    }

    /** All orders of 0 .. 4 that end with 0. */
    private static void orders(int[] order, int from, Consumer<int[]> each) {
        if (from == 4) {
            each.accept(order);
            return;
        }
        for (int i = from; i < 4; i++) {
            int[] next = order.clone();
            next[from] = order[i];
            next[i] = order[from];
            orders(next, from + 1, each);
        }
    }

    @Says(promise = 15,
            value = "in which order told ones (bits; 5 at most, else STATE) come, each once, by which one has most")
    static void p15AnyOrderOfFive() {
        int[] tried = {0};
        for (int last = 0; last < 5; last++) {
            int[] order = {0, 1, 2, 3, 4};
            order[last] = 4;
            order[4] = last;
            orders(order, 0, best -> {
                tried[0]++;
                // each has 24, and owes no more than 24, 48, 72, 96 by turns: all of it comes to the last in one order
                ThirdAfter x = new ThirdAfter();
                for (int i = 0; i < 5; i++) {
                    x.buyer(0, 0);
                    x.mend(i, 0, 24);
                }
                for (int i = 0; i < 5; i++) {
                    x.mend(best[i], 1, i + 1);
                }
                x.mend(0, 4, 1);
                Markets.law(x, "w*24");
                Cases.due("that", x.order(31, best[4], -1), 120);
                for (int k = 0; k < 5; k++) {
                    Cases.due("the order's " + k, x.order(31, best[4], k), best[k]);
                }
            });
        }
        Cases.due("all orders of five", tried[0], 120);
    }

    @Says(promise = 15, value = "(of like ones the first by numbers)")
    static void p15OfLikeOnesTheFirstByNumbers() {
        ThirdAfter x = Markets.eight();
        x.mend(0, 4, 5);
        for (int k = 0; k < 5; k++) {
            Cases.due("nobody is paid, so all are alike: " + k, x.order(0b11111000, 0, k), k + 3);
        }
        ThirdAfter y = Markets.four();
        Cases.due("0 alone is paid by 3: 1 2 3 0, the first", y.order(15, 0, 0), 1);
        Cases.due("the second", y.order(15, 0, 1), 2);
        Cases.due("the third", y.order(15, 0, 2), 3);
        Cases.due("the fourth", y.order(15, 0, 3), 0);
        Cases.due("for one who is not told", y.order(0b0110, 0, 0), 1);
    }

    // ---- flow

    @Says(promise = 16, value = "FLOW (ab: 10 times who pays, and whom, unlike). BAD, -11, -12 (no ROW of bytes).")
    static void p16TwoUnlikeOnes() {
        Supplier<ThirdAfter> four = fourWith(0, 3, 0);
        Cases.due("flow(0, 3)", four.get().flow(0, 3), 20);
        Cases.due("flow(0, 30)", four.get().flow(0, 30), 54);
        Cases.due("flow(0, 1)", four.get().flow(0, 1), 0);
        Cases.due("flow(0, 32)", four.get().flow(0, 32), 0);
        for (int ab : new int[] {-1, -10, -3, 0, 11, 22, 33, 4, 9, 14, 24, 34, 39, 40, 43, 44, 90, 100, 103, 130,
            Cases.LOW, Cases.HIGH}) {
            Cases.refused(four, "flow(0, " + ab + ")", x -> x.flow(0, ab), Cases.BAD);
            Cases.refused("BAD ahead of -11", x -> x.flow(3, ab), Cases.BAD);
        }
        Cases.refusedButBytes("flow()", (x, s) -> x.flow(s, 1));
        ThirdAfter x = Markets.eight();
        x.mend(0, 4, 1);
        Markets.comings(x, 0, 7, 6, 7);
        Cases.due("flow(0, 76) of eight", x.flow(0, 76), 48);
        Cases.due("flow(0, 67) of eight", x.flow(0, 67), 42);
        for (int ab : new int[] {77, 78, 87, 80, 8, 66}) {
            Cases.due("flow(0, " + ab + ") of eight", x.flow(0, ab), Cases.BAD);
        }
        Cases.refused(nobodyWith(2), "flow() of nobody", y -> y.flow(0, 1), Cases.BAD);
    }

    @Says(promise = 16, value = "FLOW by a ROW: how much a told one pays another one in all.")
    static void p16WhatHePaysInAll() {
        int[] has = {0, 19, 20, 38, 500}, pays = {0, 19, 20, 38, 38};
        for (int i = 0; i < has.length; i++) {
            ThirdAfter x = fourWith(0, 2, 0, 2).get();
            x.mend(0, 0, has[i]);
            Cases.due("flow(0, 2) of a PURSE of " + has[i], x.flow(0, 2), pays[i]);
            x.mend(2, 0, 999);
            Cases.due("flow(0, 2) to a PURSE of 999", x.flow(0, 2), pays[i]);
        }
        Cases.due("of no comings", fourWith().get().flow(0, 1), 0);
        Cases.due("of one coming", fourWith(0).get().flow(0, 1), 0);
    }

    // ---- round

    @Says(promise = 17,
            value = "RING: how many are in the smallest ring of those of whom each pays the next something by it "
                    + "(himself not); NOT.")
    static void p17FromTwoToEight() {
        for (int n = 2; n <= 8; n++) {
            ThirdAfter x = Markets.alike(7, 100, 100, 100, 100, 100, 100, 100, 100);
            int[] who = new int[n + 1];
            for (int i = 0; i < n; i++) {
                who[i] = (3 * i + 5) % 8;
            }
            who[n] = who[0];
            Markets.comings(x, 0, who);
            Cases.due("a ring of " + n, x.round(0, 0), n);
            x.put(0, n, -1);
            Cases.due("whose last pays nobody", x.round(0, 0), Cases.NOT);
        }
        Cases.due("the smallest of two", fourWith(0, 1, 3, 0, 3).get().round(0, 0), 2);
    }

    @Says(promise = 17, value = "(himself not); NOT")
    static void p17HimselfNot() {
        Cases.due("himself", fourWith(0, 0, 0).get().round(0, 0), Cases.NOT);
        Cases.due("one way", fourWith(0, 1, 3, 2).get().round(0, 0), Cases.NOT);
        Cases.due("himself among a ring of two", fourWith(0, 0, 1, 0).get().round(0, 0), 2);
        Cases.due("of no comings", fourWith().get().round(0, 0), Cases.NOT);
        Cases.refused(nobodyWith(3), "RING where nobody is", x -> x.round(0, 0), Cases.NOT);
    }

    @Says(promise = 17, value = "each pays the next something")
    static void p17SomethingIsMoreThan0() {
        ThirdAfter x = fourWith(0, 1, 0).get();
        Cases.due("20 and 10", x.round(0, 0), 2);
        x.mend(0, 0, 1);
        Cases.due("1 and 10", x.round(0, 0), 2);
        x.mend(0, 0, 0);
        Cases.due("nothing and 10", x.round(0, 0), Cases.NOT);
        Cases.due("20 and nothing, as he buys for 0", fourWith(0, 2, 0).get().round(0, 0), Cases.NOT);
        ThirdAfter full = fourWith(0, 1, 0).get();
        full.mend(0, 0, 999);
        full.mend(1, 0, 999);
        Cases.due("what is lost is paid", full.round(0, 0), 2);
    }

    @Says(promise = 17,
            value = "MOST: who gains most by it (PURSE behind less now; of like ones the least; NOT: nobody is "
                    + "there).")
    static void p17WhoGainsMost() {
        Cases.due("of no comings, all alike", fourWith().get().round(0, 1), 0);
        Cases.due("2, by 20", fourWith(0, 2).get().round(0, 1), 2);
        Cases.due("the greatest one", fourWith(0, 3).get().round(0, 1), 3);
        ThirdAfter alike = Markets.alike(7, 100, 5, 999, 100, 100);
        Markets.comings(alike, 0, 0, 3, 2, 4, 1);
        Cases.due("1 gains 5 or 7, 3 nothing", alike.round(0, 1), 1);
        ThirdAfter like = Markets.alike(7, 500, 100, 100, 0, 0);
        Markets.comings(like, 0, 0, 1, 0, 2);
        Cases.due("1 and 2: 2 by 7, 1 by nothing", like.round(0, 1), 2);
        // both lose by it: 20 and 15 of which all above 999 is lost
        ThirdAfter lost = Markets.of(4, 0, 1, 0);
        lost.mend(0, 4, 1);
        lost.mend(0, 0, 999);
        lost.mend(1, 0, 999);
        Markets.comings(lost, 0, 0, 1, 0);
        Cases.due("who loses least", lost.round(0, 1), 1);
        Cases.refused(nobodyWith(3), "MOST where nobody is", x -> x.round(0, 1), Cases.NOT);
        Cases.refused(nobodyWith(0), "MOST where nobody is", x -> x.round(0, 1), Cases.NOT);
    }

    @Says(promise = 17, value = "RING (what 0), MOST (1). BAD, -11, -12 (no ROW of bytes); NOT.")
    static void p17What() {
        Cases.refusedBeyond("round(0, ..)", 0, 1, (x, w) -> x.round(0, w), Cases.BAD);
        Cases.refusedButBytes("RING", (x, s) -> x.round(s, 0));
        Cases.refusedButBytes("MOST", (x, s) -> x.round(s, 1));
        Cases.refused("BAD ahead of -11", x -> x.round(3, 2), Cases.BAD);
        Cases.refused("BAD ahead of -12", x -> x.round(4, -1), Cases.BAD);
    }

    // ---- all of them

    /** Four() in which 3 owes 54 to him who comes next, with a ROW on SHELF 0. */
    private static ThirdAfter owed(int... who) {
        ThirdAfter x = fourWith(who).get();
        x.comes(3);
        Markets.comings(x, 1, 3);
        return x;
    }

    @Says(promise = {9, 10, 11, 12, 13, 14, 15, 16, 17, 18, 19, 21}, value = "from THE BOOK as it is")
    static void p09FromTheBookAsItIs() {
        Cases.due("PURSE", owed(1).market(0, 1, 3), 154);
        Cases.due("who pays", owed(1).coming(0, 0, 0), 3);
        Cases.due("how much", owed(1).coming(0, 0, 1), 54);
        Cases.due("PURSE behind a day", owed(1).later(0, 1, 1), 154);
        Cases.due("once more", owed().onceMore(0, 1, 1), 154);
        Cases.due("hired", owed().hired(0, 0, 1, 0), 1);
        Cases.due("hired, that", owed().hired(0, 0, 1, 1), 154);
        Cases.due("latch", owed(2, 1).latch(0, 1, 0), 0);
        Cases.due("latch, that", owed(2, 1).latch(0, 1, 1), 144);
        Cases.due("order", owed().order(6, 1, 0), 1);
        Cases.due("order, that", owed().order(6, 1, -1), 144);
        Cases.due("flow", owed(1).flow(0, 31), 54);
        Cases.due("RING", owed(1, 3).round(0, 0), 2);
        Cases.due("MOST", owed(1).round(0, 1), 1);
        Cases.due("JUDGED", owed(1).judge(1), Cases.NOT);
        Cases.due("THIRDS", owed(1).fits(1, 0, 0), 1 << 1);
        Cases.due("WHOSE", owed(1).fits(1, 0, 1), 15);
        Cases.due("WANTED", owed(1).fits(1, 0, 2), 10);
        ThirdAfter x = owed();
        x.mend(3, 0, 50);
        int first = (1103515245 * 5 + 12345 >>> 8) % 4;
        Cases.due("LACKING by draws", x.drawn(5, 10100, -1), first == 3 ? 0 : 4);
    }

    /** THE LAW has n and o in it, three came by now, and 1 owes 25; a ROW is on SHELF 0. */
    private static ThirdAfter byNoon(int... who) {
        ThirdAfter x = fourWith(who).get();
        Markets.law(x, "n*10+o+5");
        Markets.comeIn(x, 0, 0, 1);
        return x;
    }

    @Says(promise = {9, 10, 11, 12, 13, 14, 15, 16, 17, 21},
            value = "n how many came in ahead that day, o how often he did himself")
    static void p09FromTheDayAsItIs() {
        Cases.due("for how much he buys", byNoon(0).coming(0, 0, 2), 37);
        Cases.due("for how much another buys", byNoon(0, 1).coming(0, 1, 2), 46);
        // 2 takes 25 and owes 35, as three came ahead of him
        Cases.due("PURSE of him who owes", byNoon(2, 3).market(0, 2, 3), 90);
        Cases.due("PURSE of him who is paid", byNoon(2, 3).market(0, 3, 3), 135);
        Cases.due("PURSE behind a day", byNoon(2, 3).later(0, 1, 3), 135);
        Cases.due("once more", byNoon(2).onceMore(0, 3, 1), 135);
        Cases.due("hired", byNoon(2).hired(0, 1, 3, 1), 135);
        Cases.due("latch", byNoon(3, 2).latch(0, 3, 1), 135);
        Cases.due("order", byNoon().order(12, 3, -1), 135);
        Cases.due("flow", byNoon(2, 3).flow(0, 23), 35);
        Cases.due("MOST", byNoon(2, 3).round(0, 1), 3);
        ThirdAfter poor = byNoon(2, 3);
        poor.mend(1, 0, 0);
        poor.mend(2, 0, 0);
        Cases.due("LACKING", poor.market(0, 0, 1), 60);
        int looked = 0;
        for (int seed = 1; looked < 3; seed++) {
            int z = seed * 1103515245 + 12345;
            if ((z >>> 8) % 4 == 2 && (z * 1103515245 + 12345 >>> 8) % 4 == 3) {
                looked++;
                Cases.due("PURSE by draws of SEED " + seed, byNoon().drawn(seed, 10200, 3), 135);
            }
        }
    }

    private static ThirdAfter askedOften() {
        ThirdAfter x = Markets.four();
        x.comes(3);
        Markets.law(x, "5*w+h-2*o+n");
        Markets.comings(x, 0, 3, 2, 1, 0, 3, 1, 2, 0, 3, 3, 1, 0, 2, 1, 3, 0, 1, 3, 2, 3);
        Markets.comings(x, 1, 0, 1, 0, 3, 1);
        Markets.comings(x, 2, 3, 9, 1);
        Markets.comings(x, 3);
        return x;
    }

    @Says(promise = {9, 10, 11, 12, 13, 14, 15, 16, 17, 18, 19, 20, 21},
            value = "IN THOUGHT, by a ROW, from THE BOOK as it is")
    static void p09EachThoughtBeginsAnew() {
        Cases.Call[] calls = {
            x -> x.market(0, 0, 1), x -> x.market(1, 1, 3), x -> x.market(3, 0, 2), x -> x.coming(0, 19, 1),
            x -> x.coming(1, 4, 2), x -> x.later(0, 20, -1), x -> x.later(1, 2, 0), x -> x.later(3, 5, 1),
            x -> x.onceMore(1, 2, 0), x -> x.onceMore(3, 1, 1), x -> x.hired(1, 5, 3, 0), x -> x.hired(3, 0, 0, 1),
            x -> x.latch(0, 2, 0), x -> x.latch(1, 0, 1), x -> x.order(15, 1, 0), x -> x.order(7, 0, 2),
            x -> x.order(6, 2, -1), x -> x.order(0, 3, -1), x -> x.flow(0, 30), x -> x.flow(1, 10), x -> x.flow(1, 1),
            x -> x.flow(3, 13), x -> x.round(0, 0), x -> x.round(1, 0), x -> x.round(1, 1), x -> x.round(3, 0),
            x -> x.judge(12), x -> x.judge(2), x -> x.judge(32), x -> x.fits(12, 0, 0), x -> x.fits(12, 1, 1),
            x -> x.fits(2, 1, 2), x -> x.byTurns(10, 5, 0), x -> x.byTurns(32, 2, 0), x -> x.drawn(7, 306012, 0),
            x -> x.drawn(8, 20300, -1)};
        for (int ahead = 0; ahead < calls.length; ahead++) {
            for (int behind = 0; behind < calls.length; behind++) {
                ThirdAfter x = askedOften();
                calls[ahead].of(x);
                Cases.due("thought " + behind + " behind thought " + ahead, calls[behind].of(x),
                        calls[behind].of(askedOften()));
            }
        }
    }

    @Says(promise = {9, 10, 11, 12, 13, 14, 15, 16, 17}, value = "IN THOUGHT, by a ROW, from THE BOOK as it is")
    static void p09ThoughtChangesNothing() {
        Cases.refused("market()", x -> x.market(0, 0, 0), 4);
        Cases.refused("coming()", x -> x.coming(0, 0, 0), 3);
        Cases.refused("later()", x -> x.later(0, 0, 1), 77);
        Cases.refused("later() of 20 days", x -> x.later(0, 20, -1) < 0 ? 1 : 0, 0);
        Cases.refused("onceMore()", x -> x.onceMore(0, 2, 0) < 0 ? 1 : 0, 0);
        Cases.refused("hired()", x -> x.hired(0, 4, 2, 1) < 0 ? 1 : 0, 0);
        Cases.refused("latch()", x -> x.latch(0, 2, 1) < 0 ? 1 : 0, 0);
        Cases.refused("order()", x -> x.order(15, 2, -1) < 0 ? 1 : 0, 0);
        Cases.refused("flow()", x -> x.flow(0, 1) < 0 ? 1 : 0, 0);
        Cases.refused("round()", x -> x.round(0, 1) < 0 ? 1 : 0, 0);
    }
}
