import java.util.function.IntFunction;

/** Each promise by hand: ordinary inputs, the edges that the document names, and wrong inputs. */
public final class PromiseTest {
    private static final int BAD = -1, NOT = -2, FULL = -3, STATE = -5, VOID = -2000000000;
    private static final int LOW = Integer.MIN_VALUE, HIGH = Integer.MAX_VALUE;
    private static int wrong = 0, checks = 0;
    private static int promise = 0;

    private PromiseTest() { }

    private static void due(String call, long got, long want) {
        checks++;
        if (got != want) {
            wrong++;
            System.out.println("promise " + promise + ": " + call + " answered " + got + ", due is " + want);
        }
    }

    /** All of some arguments are to be answered alike. */
    private static void all(String call, IntFunction<Integer> answer, int want, int... arguments) {
        for (int a : arguments) {
            due(call + " of " + a, answer.apply(a), want);
        }
    }

    /** Buyers by pairs of WANTS and HASTE. */
    private static ThirdAfter market(int... pairs) {
        ThirdAfter x = new ThirdAfter();
        for (int i = 0; i < pairs.length; i += 2) {
            x.buyer(pairs[i], pairs[i + 1]);
        }
        return x;
    }

    /** Four who would buy for 20, 10, 0 and 54 at first; he who comes in is paid by the coming just ahead. */
    private static ThirdAfter four() {
        ThirdAfter x = market(4, 0, 2, 0, 0, 0, 9, 9);
        x.mend(0, 4, 1);
        return x;
    }

    private static void row(ThirdAfter x, int shelf, int sort, long... v) {
        x.row(shelf, sort, v.length);
        for (int i = 0; i < v.length; i++) {
            x.put(shelf, i, v[i]);
        }
    }

    private static void comings(ThirdAfter x, int shelf, int... who) {
        x.row(shelf, 0, who.length);
        for (int i = 0; i < who.length; i++) {
            x.put(shelf, i, who[i]);
        }
    }

    private static int law(ThirdAfter x, String text) {
        for (int i = 0; i < text.length(); i++) {
            x.feed(text.charAt(i));
        }
        return x.law();
    }

    private static void due(ThirdAfter x, int what, int... ofEach) {
        for (int i = 0; i < ofEach.length; i++) {
            due("of(" + i + ", " + what + ")", x.of(i, what), ofEach[i]);
        }
    }

    /** Shelf 4 holds a LATCH, 5 a ROW of shorts, 3 nothing: what a call says that wants a ROW of bytes. */
    private static void wantsBytes(ThirdAfter x, String call, IntFunction<Integer> ofShelf, int bad) {
        x.keep(3, -1);
        x.body(0);
        x.keep(4, 0);
        x.row(5, 1, 3);
        due(call + " on nothing", ofShelf.apply(3), -11);
        due(call + " on a LATCH", ofShelf.apply(4), -12);
        due(call + " on shorts", ofShelf.apply(5), -12);
        for (int sort = 2; sort < 5; sort++) {
            x.row(5, sort, 3);
            due(call + " on sort " + sort, ofShelf.apply(5), -12);
        }
        due(call + " on a SHELF that is not there", ofShelf.apply(6), bad);
        due(call + " on SHELF -1", ofShelf.apply(-1), bad);
    }

    public static void main(String[] args) {
        newObject();
        buyer();
        buyers();
        mendAndOf();
        feed();
        lawValues();
        lawFaults();
        book();
        market();
        coming();
        later();
        onceMore();
        hired();
        latch();
        order();
        flow();
        round();
        judge();
        fits();
        byTurns();
        drawn();
        comes();
        dogs();
        thirdChanged();
        evening();
        gives();
        led();
        imageAndBack();
        undoAndRedo();
        bodies();
        acts();
        keepAndTaken();
        rows();
        shift();
        count();
        thoughtWithNobody();
        thoughtChangesNothing();
        System.out.println(checks + " checks, " + wrong + " of them wrong");
        System.exit(wrong == 0 ? 0 : 1);
    }

    private static void newObject() {
        promise = 1;
        ThirdAfter x = new ThirdAfter();
        for (int what = 0; what < 6; what++) {
            due("count(" + what + ")", x.count(what), 0);
        }
        for (int what = 0; what < 5; what++) {
            due("led(" + what + ")", x.led(what), 0);
        }
        due("THIRD", x.of(0, 4), 3);
        due("DOGS", x.of(0, 5), 1);
        due("DAY", x.of(0, 6), 0);
        due("book(0, 0)", x.book(0, 0), NOT);
        due("back()", x.back(), STATE);
        due("undo()", x.undo(), STATE);
        due("redo()", x.redo(), STATE);
        for (int shelf = 0; shelf < 6; shelf++) {
            due("market(" + shelf + ", 0, 0)", x.market(shelf, 0, 0), -11);
        }
        due("law()", x.law(), -100);
        due("trace(0)", x.trace(0), BAD);
        ThirdAfter other = new ThirdAfter();
        other.buyer(1, 1);
        due("another one's buyers", x.count(0), 0);
        due("constants", ThirdAfter.BAD * 10000 + ThirdAfter.NOT * 1000 + ThirdAfter.FULL * 100
                + ThirdAfter.STATE * 10, BAD * 10000 + NOT * 1000 + FULL * 100 + STATE * 10);
        due("VOID", ThirdAfter.VOID, VOID);
    }

    private static void buyer() {
        promise = 2;
        ThirdAfter x = new ThirdAfter();
        all("buyer(w, 0)", w -> x.buyer(w, 0), BAD, -1, 10, LOW, HIGH);
        all("buyer(0, h)", h -> x.buyer(0, h), BAD, -1, 10, LOW, HIGH);
        for (int i = 0; i < 8; i++) {
            due("buyer", x.buyer(i, 9 - i), i);
            due("its PURSE", x.of(i, 0), 100);
            due("its WANTS", x.of(i, 1), i);
            due("its HASTE", x.of(i, 2), 9 - i);
            due("its DOG", x.of(i, 3), 0);
        }
        due("buyer(3, 3) of nine", x.buyer(3, 3), FULL);
        due("buyer(10, 3) of nine", x.buyer(10, 3), BAD);
        due("how many", x.count(0), 8);
    }

    private static void buyers() {
        promise = 3;
        ThirdAfter x = new ThirdAfter();
        row(x, 0, 1, 999, 9, 9, 0, 0, 0, 7, 8, 6, 50, 5);
        due("one from place 3", x.buyers(0, 3, 1), 1);
        due(x, 0, 0);
        due("up to the row's end, within a three", x.buyers(0, 0, 8), 3);
        due(x, 0, 0, 999, 0, 7);
        due(x, 1, 0, 9, 0, 8);
        due(x, 2, 0, 9, 0, 6);
        due("from any place", x.buyers(0, 4, 1), 1);
        due(x, 2, 0, 9, 0, 6, 7);
        due("up to HASTE 50", x.buyers(0, 7, 1), 0);
        all("place", i -> x.buyers(0, i, 1), 0, -1, 9, 10, 11, 12, LOW, HIGH);
        all("n", n -> x.buyers(0, 0, n), BAD, 0, 9, -1, LOW, HIGH);
        all("shelf", s -> x.buyers(s, 0, 1), BAD, -1, 6, LOW, HIGH);
        due("a missing row", x.buyers(1, 0, 1), 0);
        x.row(1, 0, 9);
        due("bytes", x.buyers(1, 0, 1), -12);
        due("bytes, below", x.buyers(1, -1, 1), -12);
        x.body(0);
        x.keep(1, 0);
        due("a LATCH", x.buyers(1, 0, 1), -12);
        for (int place = 3; place < 6; place++) {
            for (long v : new long[] {-1, place == 3 ? 1000 : 10}) {
                ThirdAfter y = new ThirdAfter();
                row(y, 2, 1, 1, 1, 1, 2, 2, 2, 3, 3, 3);
                y.put(2, place, v);
                due("up to one that is not so", y.buyers(2, 0, 3), 1);
                due("how many are there", y.count(0), 1);
            }
        }
        ThirdAfter z = market(1, 1, 1, 1, 1, 1, 1, 1, 1, 1, 1, 1);
        row(z, 0, 1, 1, 1, 1, 2, 2, 2, 3, 3, 3);
        due("up to FULL", z.buyers(0, 0, 3), 2);
        due("when FULL", z.buyers(0, 0, 3), 0);
        due("PURSE of the last", z.of(7, 0), 2);
    }

    private static void mendAndOf() {
        ThirdAfter x = market(3, 5, 4, 6);
        int[] first = {100, 4, 6, 0, 3, 1, 0};
        int[] least = {0, 0, 0, 0, 1, 0, 0};
        int[] most = {999, 9, 9, 1, 5, 1, 99};
        for (int what = 0; what < 7; what++) {
            int w = what;
            int number = what < 4 ? 1 : 0;
            promise = 4;
            due("mend to the most", x.mend(number, what, most[what]), first[what]);
            due("mend to the least", x.mend(number, what, least[what]), most[what]);
            due("mend again", x.mend(number, what, least[what]), least[what]);
            all("mend what " + what, v -> x.mend(number, w, v), BAD, least[what] - 1, most[what] + 1, LOW, HIGH);
            promise = 5;
            due("of what " + what, x.of(number, what), least[what]);
            int[] others = what < 4 ? new int[] {-1, 2, 8, LOW, HIGH} : new int[] {-1, 1, 8, LOW, HIGH};
            all("of(number) what " + what, n -> x.of(n, w), BAD, others);
            promise = 4;
            all("mend(number) what " + what, n -> x.mend(n, w, 1), BAD, others);
        }
        promise = 4;
        all("mend what", w -> x.mend(0, w, 1), BAD, -1, 7, LOW, HIGH);
        promise = 5;
        all("of what", w -> x.of(0, w), BAD, -1, 7, LOW, HIGH);
        due("the other's PURSE", x.of(0, 0), 100);
        due("the other's WANTS", x.of(0, 1), 3);
        ThirdAfter nobody = new ThirdAfter();
        due("of(0, 0) of nobody", nobody.of(0, 0), BAD);
        due("mend(0, 6, 7) with nobody", nobody.mend(0, 6, 7), 0);
        due("of(0, 6)", nobody.of(0, 6), 7);
    }

    private static void feed() {
        promise = 6;
        ThirdAfter x = new ThirdAfter();
        all("feed", x::feed, BAD, -1, 256, LOW, HIGH);
        for (int i = 1; i <= 120; i++) {
            due("feed", x.feed(i == 1 ? 0 : 255), i);
        }
        due("feed of 121", x.feed(49), FULL);
        due("a bad one of 121", x.feed(256), BAD);
        due("how many", x.count(2), 120);
        promise = 7;
        due("law", x.law(), -100);
        due("the tape is empty", x.count(2), 0);
        due("feed anew", x.feed(49), 1);
        StringBuilder longest = new StringBuilder("1");
        while (longest.length() < 119) {
            longest.append("+1");
        }
        due("120 bytes", law(market(1, 1), longest + "0"), 1);
        due("120 bytes that end too early", law(market(1, 1), longest + "+"), -220);
        // each byte counts, and the line's end: 59 ones less one
        ThirdAfter whole = market(1, 1);
        comings(whole, 0, 0);
        due("120 bytes, each of which is worked out", law(whole, "-" + longest), 1);
        due("120 bytes' value", whole.coming(0, 0, 2), 58);
    }

    /** For how much buyer 0 (WANTS 3, HASTE 5, PURSE 90) buys when he comes the third time, 4th of DAY 7. */
    private static int value(String text) {
        ThirdAfter x = market(3, 5, 0, 0);
        x.mend(0, 6, 7);
        x.mend(0, 4, 5);
        x.comes(0);
        x.comes(1);
        x.comes(0);
        x.comes(1);
        x.mend(0, 0, 90);
        comings(x, 0, 0);
        due("law() of " + text, law(x, text), 1);
        return x.coming(0, 0, 2);
    }

    private static void lawValues() {
        promise = 7;
        String[] texts = {"w", "p", "h", "n", "o", "d", "0007", "9999", "0", "-1", "--5", "!0", "!7", "!!7",
            "1+2*3", "(1+2)*3", "20-5-4", "100/3/4", "47%10*3", "2*3%4", "-7/2+9", "-7%4+9", "7/0+2", "7%0+3",
            "1<2", "2<2", "2=2", "2=3", "3>2", "2>2", "1+1=2", "w<h", "5|0", "0|0", "3&0", "3&7", "0&1|1", "1|1&0",
            "1<2&3>2", "1=1|0", "0?1;2", "1?3;2", "0?1", "0?1;0?2;3", "0-1?4", "1?0;5", "w-3?1;w-2?8;9",
            "(0|7)*5", "-(0-9)", "!w+6", "-w+9", "9999*9999*9999*9999", "((((((w))))))", "!!!!!!w", "-!-!-!w+3",
            "((((((w))))))*((((((h))))))", "1;2", "(1<2)<3", "7-(2=2)", "p/4;w*7-o*3+d", "o*10+n", "50/7%4", "2--3",
            "9999*9999*9999*9999%1000%50-50+99", "w|h", "6&!0"};
        int[] values = {3, 90, 5, 4, 2, 7, 7, 99, 0, 0, 5, 1, 0, 1,
            7, 9, 11, 8, 21, 2, 6, 6, 2, 3,
            1, 0, 1, 0, 1, 0, 1, 1, 1, 0, 0, 1, 1, 1,
            1, 1, 2, 3, 0, 3, 4, 0, 8,
            5, 9, 6, 6, (9999 * 9999 * 9999 * 9999) < 0 ? 0 : 99, 3, 1, 3,
            15, 1, 1, 6, 22, 24, 3, 5,
            Math.max(0, Math.min(99, 9999 * 9999 * 9999 * 9999 % 1000 % 50 + 49)), 1, 1};
        for (int i = 0; i < texts.length; i++) {
            due("value of " + texts[i], value(texts[i]), values[i]);
        }
        // without a text: 5 times WANTS, and HASTE, less 2 times o
        ThirdAfter x = market(9, 9, 0, 1);
        comings(x, 0, 0, 0, 1, 1);
        due("the first time", x.coming(0, 0, 2), 54);
        due("the second time", x.coming(0, 1, 2), 52);
        due("of little", x.coming(0, 2, 2), 1);
        due("not below 0", x.coming(0, 3, 2), 0);
        // he is paid first, but the text has his PURSE as he came in
        ThirdAfter y = four();
        law(y, "p/10+w");
        comings(y, 0, 0, 1);
        due("is paid", y.coming(0, 1, 1), 14);
        due("buys by what he had", y.coming(0, 1, 2), 12);
    }

    private static void lawFaults() {
        promise = 7;
        String[] texts = {"", "+", "w+", "w+)", "w w", "12345", "w?", "w?h?d", "w;", ";", "w;;", "(w", "(w;h)", "(w?h)",
            "w<h<d", "w<h=1", "(w<h)<d<1", "w)", "()", "(((((((w", "!!!!!!!w", "-!(-!(-w", "((((((!w", "x", "W",
            "w?h;", "1a", "a1", "w&&h", "w|", "w*/h", "1?2:3", "w<", "3w", "w3", "!", "!)", "-", "(1<2&3<4<5",
            "w\u00e9", "(((((w)))))!", "1<(2<3)>4", "1&2<3&4<5<6"};
        int[] faults = {0, 0, 2, 2, 1, 4, 2, 3, 2, 0, 2, 2, 2, 2,
            3, 3, 7, 1, 1, 6, 6, 6, 6, 0, 0,
            4, 1, 0, 2, 2, 2, 3, 2, 1, 1, 1, 1, 1, 8, 1,
            11, 7, 9};
        for (int i = 0; i < texts.length; i++) {
            ThirdAfter x = market(3, 5);
            due("law() of " + texts[i], law(x, texts[i]), -100 - faults[i]);
            due("the tape then", x.count(2), 0);
        }
        ThirdAfter x = market(3, 5);
        comings(x, 0, 0);
        law(x, "7");
        due("by the law", x.coming(0, 0, 2), 7);
        due("a fault", law(x, "8+"), -102);
        due("by the law as it was", x.coming(0, 0, 2), 7);
        due("another law", law(x, "h*w"), 1);
        due("by the other law", x.coming(0, 0, 2), 15);
        due("a third law", law(x, "9"), 1);
        due("by the third law", x.coming(0, 0, 2), 9);
        // that many signs ahead are open in turn, not at once
        due("closed again", law(x, "!w+!w+!w+(-w)+-w*-w*!!w+((w))"), 1);
    }

    private static void book() {
        promise = 8;
        ThirdAfter x = market(4, 0, 2, 0);
        x.comes(1);
        x.comes(0);
        due("who, the oldest", x.book(0, 0), 1);
        due("how much", x.book(0, 1), 10);
        due("who, the next", x.book(1, 0), 0);
        due("how much", x.book(1, 1), 20);
        all("book(k, 0)", k -> x.book(k, 0), NOT, 2, 4, 5, 6, HIGH);
        all("book(k, 1)", k -> x.book(k, 1), BAD, -1, LOW);
        all("book(0, what)", w -> x.book(0, w), BAD, -1, 2, LOW, HIGH);
        due("book(9, 2)", x.book(9, 2), BAD);
        x.comes(0);
        x.comes(1);
        due("the oldest is paid", x.book(0, 0), 0);
        due("as many as THIRD", x.count(1), 3);
        due("the third", x.book(2, 0), 1);
        due("of him the second time", x.book(2, 1), 8);
    }

    private static void market() {
        promise = 9;
        ThirdAfter x = four();
        comings(x, 0, 0, 1, 2, 0);
        due("how many come", x.market(0, 0, 0), 4);
        due("LACKING", x.market(0, 0, 1), 0);
        due("open", x.market(0, 0, 2), 1);
        int[] purses = {80, 110, 110, 100};
        for (int i = 0; i < 4; i++) {
            due("PURSE of " + i, x.market(0, i, 3), purses[i]);
        }
        x.mend(0, 0, 5);
        due("LACKING of a poor one", x.market(0, 0, 1), 15);
        due("PURSE of the poor one", x.market(0, 0, 3), 0);
        due("PURSE of him who lacks it", x.market(0, 1, 3), 95);
        x.mend(1, 0, 995);
        x.mend(0, 0, 100);
        due("999 at most, and pays on from there", x.market(0, 1, 3), 989);
        x.mend(0, 4, 5);
        due("open by THIRD 5", x.market(0, 0, 2), 4);
        all("one for others", n -> x.market(0, n, 0), BAD, 1, -1, LOW, HIGH);
        due("one for LACKING", x.market(0, 1, 1), BAD);
        due("one for open", x.market(0, 1, 2), BAD);
        all("PURSE of nobody", n -> x.market(0, n, 3), BAD, 4, -1, 8, LOW, HIGH);
        all("what", w -> x.market(0, 0, w), BAD, -1, 4, LOW, HIGH);
        wantsBytes(x, "market", s -> x.market(s, 0, 0), BAD);
        due("BAD ahead of -11", x.market(3, 0, 4), BAD);
        // a ROW ends with what is no BUYER, and has 20 at most
        comings(x, 1, 0, 1, 4, 0);
        due("up to no BUYER", x.market(1, 0, 0), 2);
        comings(x, 1, 0, 1, -1, 0);
        due("up to -1", x.market(1, 0, 0), 2);
        x.row(1, 0, 21);
        due("of 21", x.market(1, 0, 0), 20);
        x.row(1, 0, 20);
        due("of 20", x.market(1, 0, 0), 20);
        x.row(1, 0, 0);
        due("of none", x.market(1, 0, 0), 0);
        ThirdAfter nobody = new ThirdAfter();
        nobody.row(0, 0, 9);
        due("with nobody", nobody.market(0, 0, 0), 0);
        due("PURSE with nobody", nobody.market(0, 0, 3), BAD);
        // the day so far counts: n and o go on, and THE BOOK's debts are paid
        ThirdAfter y = four();
        law(y, "n*10+o");
        y.comes(0);
        y.comes(0);
        comings(y, 0, 0, 1);
        due("n, o go on", y.coming(0, 0, 2), 22);
        due("n goes on", y.coming(0, 1, 2), 30);
        due("by THE BOOK", y.coming(0, 0, 0), 0);
    }

    private static void coming() {
        promise = 10;
        ThirdAfter x = four();
        comings(x, 0, 0, 1, 2, 0, 0);
        int[][] due = {{8, 0, 20}, {0, 20, 10}, {1, 10, 0}, {2, 0, 18}, {0, 0, 16}};
        for (int k = 0; k < 5; k++) {
            for (int what = 0; what < 3; what++) {
                due("coming(0, " + k + ", " + what + ")", x.coming(0, k, what), due[k][what]);
            }
        }
        all("none", k -> x.coming(0, k, 0), NOT, 5, 20, 21, HIGH);
        all("k", k -> x.coming(0, k, 0), BAD, -1, LOW);
        all("what", w -> x.coming(0, 0, w), BAD, -1, 3, LOW, HIGH);
        due("BAD ahead of NOT", x.coming(0, 9, 3), BAD);
        wantsBytes(x, "coming", s -> x.coming(s, 0, 0), BAD);
        // in all: several debts, the first one's debtor is told
        ThirdAfter y = market(4, 0, 2, 0, 0, 0, 9, 9);
        y.comes(0);
        y.comes(1);
        y.comes(3);
        y.mend(0, 4, 1);
        comings(y, 0, 2);
        due("who pays first", y.coming(0, 0, 0), 0);
        due("how much in all", y.coming(0, 0, 1), 84);
        comings(y, 0, 1);
        due("how much in all, less one's own", y.coming(0, 0, 1), 74);
    }

    private static void later() {
        promise = 11;
        ThirdAfter x = four();
        comings(x, 0, 0, 1);
        // 0 pays 1 20 each day; 1 pays 0 10 each next morning
        due("no day", x.later(0, 0, 0), 100);
        due("one day", x.later(0, 1, 0), 80);
        due("two days", x.later(0, 2, 0), 70);
        due("eight days", x.later(0, 8, 0), 10);
        due("nine days", x.later(0, 9, 0), 0);
        due("ten days", x.later(0, 10, 0), 0);
        due("twenty days", x.later(0, 20, 1), 200);
        due("LACKING of none", x.later(0, 0, -1), 0);
        due("LACKING of nine", x.later(0, 9, -1), 0);
        due("LACKING of ten", x.later(0, 10, -1), 10);
        due("LACKING of twelve", x.later(0, 12, -1), 30);
        all("n", n -> x.later(0, n, 0), BAD, -1, 21, LOW, HIGH);
        all("one", n -> x.later(0, 1, n), BAD, -2, 4, 8, LOW, HIGH);
        wantsBytes(x, "later", s -> x.later(s, 1, 0), BAD);
        // EVENINGS between: DAY goes on, o begins anew, none is ahead of the first
        law(x, "d*5+o");
        x.comes(0);
        comings(x, 0, 0, 1, 0);
        x.mend(0, 6, 3);
        // 1 gets 16 from 0, 0 gets 15 from 1; behind the evening himself, then 20, 20
        due("PURSE of a day", x.later(0, 1, 1), 101);
        due("PURSE of two days", x.later(0, 2, 1), 101);
        x.mend(0, 6, 99);
        due("DAY stays 99", x.later(0, 2, -1), 0);
    }

    private static void onceMore() {
        promise = 12;
        ThirdAfter x = four();
        comings(x, 0, 0, 1, 3);
        // 2 is paid by whom he comes behind: 20 by 0, 10 by 1, 54 by 3
        due("which", x.onceMore(0, 2, 0), 3);
        due("that", x.onceMore(0, 2, 1), 154);
        comings(x, 0, 3, 0, 1);
        due("which", x.onceMore(0, 2, 0), 1);
        // 0 as he comes first of all owes 3, whom 3 owes more: best ahead or behind 3's
        comings(x, 0, 2, 2);
        due("of like ones the least", x.onceMore(0, 3, 0), 2);
        due("what he keeps", x.onceMore(0, 3, 1), 100);
        x.row(0, 0, 0);
        due("in no row", x.onceMore(0, 3, 0), 0);
        due("in no row, that", x.onceMore(0, 3, 1), 100);
        x.row(0, 0, 19);
        due("of 19", x.onceMore(0, 0, 0), 0);
        x.row(0, 0, 20);
        due("of 20", x.onceMore(0, 0, 0), STATE);
        x.row(0, 0, 21);
        due("of 21", x.onceMore(0, 0, 1), STATE);
        due("BAD ahead of STATE", x.onceMore(0, 4, 0), BAD);
        all("one", n -> x.onceMore(0, n, 0), BAD, -1, 4, LOW, HIGH);
        all("what", w -> x.onceMore(0, 0, w), BAD, -1, 2, LOW, HIGH);
        wantsBytes(x, "onceMore", s -> x.onceMore(s, 0, 0), BAD);
    }

    private static void hired() {
        promise = 13;
        ThirdAfter x = four();
        comings(x, 0, 2, 2);
        // ahead of 2: he who buys for most
        due("which, ahead", x.hired(0, 0, 2, 0), 3);
        due("that, ahead", x.hired(0, 0, 2, 1), 154);
        due("which, between", x.hired(0, 1, 2, 0), 3);
        due("behind all, of like ones the least", x.hired(0, 2, 2, 0), 0);
        due("behind all, that", x.hired(0, 2, 2, 1), 100);
        comings(x, 0, 3, 1);
        due("himself", x.hired(0, 1, 0, 0), 0);
        due("himself, that: 54 less 20", x.hired(0, 1, 0, 1), 134);
        all("place", p -> x.hired(0, p, 0, 0), BAD, 3, -1, 20, 21, LOW, HIGH);
        all("one", n -> x.hired(0, 0, n, 0), BAD, -1, 4, LOW, HIGH);
        all("what", w -> x.hired(0, 0, 0, w), BAD, -1, 2, LOW, HIGH);
        x.row(0, 0, 19);
        due("of 19", x.hired(0, 19, 0, 0), 0);
        x.row(0, 0, 20);
        due("of 20", x.hired(0, 20, 0, 0), STATE);
        due("of 20, place 21", x.hired(0, 21, 0, 0), BAD);
        wantsBytes(x, "hired", s -> x.hired(s, 0, 0, 0), BAD);
    }

    private static void latch() {
        promise = 14;
        ThirdAfter x = four();
        comings(x, 0, 0, 1, 3, 2);
        // 1 as it is: 100 + 20 - 10; with 1 and 3 changed: + 54 - 10; with 0 and 1: -10 .. no
        due("which", x.latch(0, 1, 0), 1);
        due("that", x.latch(0, 1, 1), 144);
        // 2 has 54 as it is, which is most
        due("none does", x.latch(0, 2, 0), NOT);
        due("as it is", x.latch(0, 2, 1), 154);
        comings(x, 0, 3, 1, 2, 3, 1, 2);
        // 2 may come behind 3 by places 0, 1 and 4: 54 and 8, or 10 and 52
        due("of like ones the least", x.latch(0, 2, 0), 0);
        due("of like ones, that", x.latch(0, 2, 1), 162);
        comings(x, 0, 0, 2, 3, 2);
        // as it is 20 and 54; by 1: 54 and 0; no: by 0: 0 and 54; by 2: 20 and 0
        due("none does better", x.latch(0, 2, 0), NOT);
        comings(x, 0, 2, 1, 3, 0);
        // as it is nothing; by 0: 10
        due("most of all", x.latch(0, 2, 0), 0);
        comings(x, 0, 1, 0, 2, 3);
        // as it is 20; by 1: 10; by 2: 54 of 3 who now is behind 0
        due("a later one", x.latch(0, 2, 0), 2);
        due("a later one, that", x.latch(0, 2, 1), 154);
        comings(x, 0, 0);
        due("of one", x.latch(0, 0, 0), NOT);
        x.row(0, 0, 0);
        due("of none", x.latch(0, 0, 0), NOT);
        due("of none, that", x.latch(0, 0, 1), 100);
        all("one", n -> x.latch(0, n, 0), BAD, -1, 4, LOW, HIGH);
        all("what", w -> x.latch(0, 0, w), BAD, -1, 2, LOW, HIGH);
        wantsBytes(x, "latch", s -> x.latch(s, 0, 0), BAD);
    }

    private static void order() {
        promise = 15;
        ThirdAfter x = four();
        due("that for 1", x.order(11, 1, -1), 154);
        // 0 3 1: 1 has 54 and owes behind him nobody; ahead of 3 0 1, where he has 20
        due("the first", x.order(11, 1, 0), 0);
        due("the second", x.order(11, 1, 1), 3);
        due("the third", x.order(11, 1, 2), 1);
        all("not as many", k -> x.order(11, 1, k), NOT, 3, 5, HIGH);
        due("for one who is not told", x.order(11, 2, -1), 100);
        due("of like ones the first by numbers", x.order(11, 2, 0) * 100 + x.order(11, 2, 1) * 10
                + x.order(11, 2, 2), 13);
        due("none told", x.order(0, 1, -1), 100);
        due("none told, the first", x.order(0, 1, 0), NOT);
        all("set", s -> x.order(s, 1, -1), BAD, 16, -1, LOW, HIGH);
        all("one", n -> x.order(3, n, -1), BAD, -1, 4, LOW, HIGH);
        all("k", k -> x.order(3, 1, k), BAD, -2, LOW);
        ThirdAfter y = market(1, 1, 2, 2, 3, 3, 4, 4, 5, 5, 6, 6, 7, 7, 8, 8);
        // 1 takes 30 of 4, as the fourth or as the fifth: 0 4 2 3 1 is ahead of 4 .. 1 ..
        due("five", y.order(31, 1, -1), 130);
        due("five, the fifth", y.order(31, 1, 4), 1);
        due("five, the second", y.order(31, 1, 1), 4);
        due("six", y.order(63, 1, -1), STATE);
        due("all", y.order(255, 1, 0), STATE);
        due("BAD ahead of STATE", y.order(255, 8, 0), BAD);
        due("NOT ahead of STATE", y.order(63, 0, 6), NOT);
        due("256", y.order(256, 1, 0), BAD);
    }

    private static void flow() {
        promise = 16;
        ThirdAfter x = four();
        comings(x, 0, 0, 1, 0, 1, 1);
        due("0 pays 1: 20 and 18", x.flow(0, 1), 38);
        due("1 pays 0: 10", x.flow(0, 10), 10);
        due("2 pays 1", x.flow(0, 21), 0);
        x.mend(0, 0, 15);
        due("what he has: 15, and of the 10 then", x.flow(0, 1), 25);
        x.mend(0, 0, 100);
        x.comes(3);
        due("by THE BOOK", x.flow(0, 30), 54);
        due("told anew", x.flow(0, 30), 54);
        all("ab", ab -> x.flow(0, ab), BAD, -1, 0, 11, 22, 4, 40, 44, 8, 80, 100, 101, LOW, HIGH, -10);
        wantsBytes(x, "flow", s -> x.flow(s, 1), BAD);
    }

    private static void round() {
        promise = 17;
        ThirdAfter x = four();
        comings(x, 0, 0, 1, 3, 0);
        due("of three", x.round(0, 0), 3);
        due("who gains most", x.round(0, 1), 0);
        comings(x, 0, 0, 1, 2, 0);
        due("not by 0 coins", x.round(0, 0), NOT);
        due("of like ones the least", x.round(0, 1), 1);
        comings(x, 0, 0, 0, 0);
        due("not by himself", x.round(0, 0), NOT);
        comings(x, 0, 0, 1, 3, 0, 3);
        due("the smallest", x.round(0, 0), 2);
        comings(x, 0, 0, 3, 1, 0, 3);
        due("of three the other way round", x.round(0, 0), 3);
        x.row(0, 0, 0);
        due("none", x.round(0, 0), NOT);
        due("all alike", x.round(0, 1), 0);
        comings(x, 0, 0, 1);
        x.mend(0, 0, 0);
        due("not by an empty PURSE", x.round(0, 0), NOT);
        due("nobody gains", x.round(0, 1), 0);
        x.mend(0, 0, 9);
        due("who gains, not who has", x.round(0, 1), 1);
        ThirdAfter big = market(9, 9, 9, 9, 9, 9, 9, 9, 9, 9, 9, 9, 9, 9, 9, 9);
        big.mend(0, 4, 1);
        comings(big, 0, 0, 7, 1, 6, 2, 5, 3, 4, 0);
        due("of all", big.round(0, 0), 8);
        all("what", w -> x.round(0, w), BAD, -1, 2, LOW, HIGH);
        wantsBytes(x, "round", s -> x.round(s, 0), BAD);
        wantsBytes(x, "round", s -> x.round(s, 1), BAD);
        ThirdAfter nobody = new ThirdAfter();
        nobody.row(0, 0, 3);
        due("nobody is there", nobody.round(0, 1), NOT);
        due("no ring", nobody.round(0, 0), NOT);
    }

    private static void judge() {
        promise = 18;
        ThirdAfter x = four();
        comings(x, 0, 0, 1, 3, 0);
        comings(x, 1, 8, 0, 1, 3);
        due("all is so", x.judge(1), NOT);
        comings(x, 1, 8, 9, 1);
        due("some is not seen", x.judge(1), NOT);
        x.row(1, 0, 0);
        due("nothing is seen", x.judge(1), NOT);
        comings(x, 1, 8, 9, 0, 0);
        due("the first that is not so", x.judge(1), 2);
        comings(x, 1, 0);
        due("somebody for nobody", x.judge(1), 0);
        comings(x, 1, 8, 0, 1, 3, 0);
        due("more than come", x.judge(1), 4);
        comings(x, 1, 9, 9, 9, 9, 9);
        due("more than come, not seen", x.judge(1), 4);
        comings(x, 1, 10);
        due("no number of all", x.judge(1), 0);
        comings(x, 1, -1);
        due("below", x.judge(1), 0);
        comings(x, 0, 0, 0, 0);
        due("of itself", x.judge(0), 0);
        all("ss", x::judge, BAD, -1, 6, 60, 66, 100, LOW, HIGH, -10);
        comings(x, 0, 0, 1);
        wantsBytes(x, "judge of a ROW on", s -> x.judge(s < 0 ? -1 : 10 * s), BAD);
        wantsBytes(x, "judge of SEEN on", s -> x.judge(s < 0 ? -1 : s), BAD);
        due("the ROW first", x.judge(43), -12);
        due("the ROW first", x.judge(34), -11);
    }

    private static void fits() {
        promise = 19;
        ThirdAfter x = four();
        comings(x, 0, 0, 1, 2, 3, 0, 1);
        comings(x, 1, 9, 9, 9, 9, 2);
        due("THIRDS", x.fits(1, 0, 0), 1 << 2);
        comings(x, 1, 8);
        due("any THIRD", x.fits(1, 0, 0), 62);
        comings(x, 1, 8, 8, 8);
        due("from 3 on", x.fits(1, 0, 0), 8 + 16 + 32);
        comings(x, 1, 9, 9, 9, 9, 9, 9, 9);
        due("more than come", x.fits(1, 0, 0), 0);
        due("by THIRD still 1", x.of(0, 4), 1);
        comings(x, 1, 9, 0, 9, 2);
        due("WHOSE at 0", x.fits(1, 0, 1), 1);
        due("WHOSE at 1", x.fits(1, 1, 1), 15);
        due("WHOSE at 2", x.fits(1, 2, 1), 4);
        due("WHOSE at the last", x.fits(1, 5, 1), 15);
        all("WHOSE at", p -> x.fits(1, p, 1), BAD, 6, -1, 20, LOW, HIGH);
        due("WANTED", x.fits(1, 3, 2), 10);
        due("the least", x.fits(1, 3, 3), 0);
        comings(x, 1, 0);
        due("WANTED of none", x.fits(1, 3, 2), 0);
        due("the least of none", x.fits(1, 3, 3), NOT);
        due("WHOSE of none", x.fits(1, 0, 1), 0);
        all("THIRDS' number", n -> x.fits(1, n, 0), BAD, 1, -1, LOW, HIGH);
        all("WANTED's number", n -> x.fits(1, n, 2), BAD, 4, -1, LOW, HIGH);
        all("the least's number", n -> x.fits(1, n, 3), BAD, 4, -1, LOW, HIGH);
        all("what", w -> x.fits(1, 0, w), BAD, -1, 4, LOW, HIGH);
        all("ss", ss -> x.fits(ss, 0, 0), BAD, -1, 6, 60, 100, LOW, HIGH);
        wantsBytes(x, "fits of a ROW on", s -> x.fits(s < 0 ? -1 : 10 * s, 0, 0), BAD);
        wantsBytes(x, "fits of SEEN on", s -> x.fits(s < 0 ? -1 : s, 0, 0), BAD);
        due("the ROW first", x.fits(43, 0, 0), -12);
        due("BAD ahead of SEEN's", x.fits(3, 6, 1), BAD);
        due("the WANTS are as they were", x.of(3, 1), 9);
        // a ROW of dogs is paid by nobody, whatever THIRD is
        x.mend(0, 3, 1);
        x.mend(0, 5, 0);
        comings(x, 0, 0, 0, 0);
        comings(x, 1, 8, 8, 8);
        due("THIRDS of dogs", x.fits(1, 0, 0), 62);
        due("WHOSE among dogs", x.fits(1, 1, 1), 15);
    }

    private static void byTurns() {
        promise = 20;
        ThirdAfter x = four();
        // debts in THE BOOK: 3 owes 54 to him who comes next
        x.comes(3);
        due("once: he takes it", x.byTurns(1, 1, 0), 54);
        due("once: he comes in", x.byTurns(1, 1, 1), 1);
        // if he takes it, he owes the other 20, who takes that
        due("twice", x.byTurns(1, 2, 0), 14);
        due("twice: he comes in", x.byTurns(1, 2, 1), 1);
        due("of the other's: 10 then", x.byTurns(10, 2, 0), 34);
        ThirdAfter y = four();
        due("nothing to take", y.byTurns(1, 1, 0), 0);
        due("of like ones he stays out", y.byTurns(1, 1, 1), 0);
        due("he would owe", y.byTurns(1, 2, 1), 0);
        due("he stays out", y.byTurns(1, 2, 0), 0);
        y.mend(0, 0, 7);
        due("his PURSE less the other's", y.byTurns(1, 1, 0), -93);
        due("and the other way", y.byTurns(10, 1, 0), 93);
        all("n", n -> x.byTurns(1, n, 0), VOID, 0, 6, -1, LOW, HIGH);
        all("ab", ab -> x.byTurns(ab, 1, 0), VOID, 0, 11, 4, 40, -1, 100, 8, LOW, HIGH);
        all("what", w -> x.byTurns(1, 1, w), VOID, -1, 2, LOW, HIGH);
        due("five", y.byTurns(1, 5, 1), 0);
    }

    private static void drawn() {
        promise = 21;
        ThirdAfter x = market(9, 9, 9, 0, 1, 1);
        due("one market", x.drawn(7, 10101, 0), 100);
        due("thirty markets", x.drawn(7, 300112, 0), 3000);
        // z of 7: 7 * 1103515245 + 12345 = 7724619060, as an int -865315532; >>> 8: 13397077; % 3: 1
        int z = 7 * 1103515245 + 12345;
        int first = (z >>> 8) % 3;
        z = z * 1103515245 + 12345;
        int second = (z >>> 8) % 3;
        x.mend(0, 4, 1);
        int[] buys = {54, 45, 6};
        int gain = first == second ? 0 : buys[first];
        due("two comings: he who comes", x.drawn(7, 10200, second), 100 + gain);
        due("two comings: he who owes", x.drawn(7, 10200, first), 100 - gain);
        z = z * 1103515245 + 12345;
        int third = (z >>> 8) % 3;
        z = z * 1103515245 + 12345;
        int fourth = (z >>> 8) % 3;
        int more = third == fourth ? 0 : buys[third];
        due("the draws go on from market to market", x.drawn(7, 20200, first),
                200 - gain + (fourth == first ? more : third == first ? -more : 0));
        x.mend(first, 0, 1);
        due("LACKING", x.drawn(7, 10200, -1), gain == 0 ? 0 : gain - 1);
        due("LACKING of a market of one", x.drawn(7, 10100, -1), 0);
        law(x, "d*9");
        due("no evening by DUSK 0", x.drawn(7, 13000, -1), 0);
        due("evenings by DUSK 12", x.drawn(7, 13012, -1) > 0 ? 1 : 0, 1);
        all("nmd", v -> x.drawn(1, v, 0), BAD, 0, 100, 310100, 10000, 16100, 10113, 10199, -10101, LOW, HIGH);
        all("one", n -> x.drawn(1, 10100, n), BAD, -2, 3, 8, LOW, HIGH);
        all("seed", s -> x.drawn(s, 10100, 0) > 0 ? 1 : 0, 1, LOW, HIGH, 0, -1);
        due("all at most", x.drawn(1, 306012, -1) >= 0 ? 1 : 0, 1);
        ThirdAfter nobody = new ThirdAfter();
        all("LACKING with nobody", v -> nobody.drawn(0, v, -1), 0, 10100, 11112, 306000, 306012);
        all("LACKING with nobody, by a seed", s -> nobody.drawn(s, 11112, -1), 0, LOW, HIGH, -1, 7);
        all("PURSE with nobody", n -> nobody.drawn(0, 11112, n), BAD, 0, 7, -2, LOW, HIGH);
        all("nmd with nobody", v -> nobody.drawn(0, v, -1), BAD, 0, 100, 310100, 10000, 16100, 10113, -10101, LOW);
        due("an evening of a draw is in thought", nobody.of(0, 6), 0);
        due("nobody came", nobody.count(0), 0);
    }

    private static void comes() {
        promise = 22;
        ThirdAfter x = market(4, 0, 2, 0, 0, 0, 9, 9);
        all("one", x::comes, BAD, -1, 4, 8, LOW, HIGH);
        due("first", x.comes(0), 0);
        due("second", x.comes(1), 0);
        due("third", x.comes(3), 0);
        due("is paid by the third ahead", x.comes(2), 20);
        due(x, 0, 80, 100, 120, 100);
        due("by the next", x.comes(2), 10);
        x.mend(3, 0, 50);
        due("what he has", x.comes(0), 50);
        due("LACKING", x.led(2), 4);
        due(x, 0, 130, 90, 130, 0);
        due("nothing is owed", x.comes(3), 0);
        // of himself nothing changes, nothing lacks, though the debt is gone
        ThirdAfter y = four();
        y.comes(0);
        y.mend(0, 0, 3);
        due("of himself", y.comes(0), 0);
        due("of himself nothing lacks", y.led(2), 0);
        due("of himself nothing changes", y.of(0, 0), 3);
        due("one debt", y.count(1), 1);
        due("the new one", y.book(0, 1), 18);
        // 999 at most, what is above is lost; he is paid all the same
        y.mend(0, 0, 100);
        y.mend(1, 0, 990);
        due("paid in full", y.comes(1), 18);
        due(x.of(0, 0) > 0 ? y : x, 0, 82, 999);
    }

    private static void dogs() {
        promise = 22;
        ThirdAfter x = four();
        x.mend(1, 3, 1);
        x.comes(0);
        due("a dog that counts", x.comes(1), 20);
        x.mend(0, 5, 0);
        due("a dog that does not count", x.comes(1), 0);
        due("owes as it did", x.book(0, 0), 1);
        due("one debt", x.count(1), 1);
        due("comings that count", x.led(0), 2);
        due("not a dog", x.comes(2), 10);
        law(x, "n*10+o");
        x.comes(1);
        comings(x, 0, 1, 0, 1, 2);
        due("dogs come in a row, too", x.market(0, 0, 0), 4);
        due("who pays a dog", x.coming(0, 0, 0), 8);
        due("a dog buys", x.coming(0, 0, 2), 0);
        due("n, o are not more by a dog", x.coming(0, 1, 2), 31);
        due("who pays him behind a dog", x.coming(0, 3, 0), 0);
        due("n behind a dog", x.coming(0, 3, 2), 41);
        x.mend(0, 5, 1);
        due("n, o of a dog that counts", x.coming(0, 0, 2), 31);
    }

    private static void thirdChanged() {
        promise = 22;
        ThirdAfter x = market(4, 0, 2, 0, 0, 0, 9, 9);
        x.comes(0);
        x.comes(1);
        x.comes(3);
        x.mend(0, 4, 5);
        due("nobody is paid", x.comes(2), 0);
        due("till so many are open", x.comes(2), 0);
        due("five are open", x.count(1), 5);
        due("then the oldest", x.comes(2), 20);
        x.mend(0, 4, 2);
        due("four at once: 10, 54, himself, himself", x.comes(2), 64);
        due("two are open", x.count(1), 2);
        due("who", x.book(0, 0), 2);
        due(x, 0, 80, 90, 184, 46);
        // one behind the other: what the first pays, the next cannot take of the same PURSE again
        ThirdAfter y = market(4, 0, 0, 0);
        y.mend(0, 4, 3);
        y.comes(0);
        y.comes(0);
        y.comes(0);
        y.mend(0, 4, 1);
        y.mend(0, 0, 25);
        due("20, 5, none", y.comes(1), 25);
        due("LACKING: 13 and 16", y.led(2), 29);
    }

    private static void evening() {
        promise = 23;
        ThirdAfter x = four();
        law(x, "n*10+o*3+d");
        x.comes(0);
        x.comes(0);
        due("what he bought for", x.book(0, 1), 13);
        due("evening", x.evening(), 1);
        due("THE BOOK stays", x.book(0, 1), 13);
        due("it is paid in the morning", x.comes(1), 13);
        due("n, o begin anew", x.book(0, 1), 1);
        x.comes(0);
        due("o of the other, too", x.book(0, 1), 11);
        x.mend(0, 6, 98);
        due("99", x.evening(), 99);
        due("99 stays", x.evening(), 99);
        due("DAY", x.of(0, 6), 99);
        due("EVENINGS", x.led(3), 3);
        due("with nobody", new ThirdAfter().evening(), 1);
    }

    private static void gives() {
        promise = 24;
        ThirdAfter x = market(1, 1, 1, 1);
        due("gives 30", x.gives(0, 1, 30), 70);
        due(x, 0, 70, 130);
        due("all of it", x.gives(0, 1, 70), 0);
        due("has not so much", x.gives(0, 1, 1), STATE);
        x.mend(0, 0, 999);
        due("999", x.gives(0, 1, 999), 0);
        due(x, 0, 0, 999);
        due("given: what is above, too", x.led(4), 1099);
        all("v", v -> x.gives(1, 0, v), BAD, 0, 1000, -1, LOW, HIGH);
        all("one", n -> x.gives(n, 0, 1), BAD, -1, 0, 2, LOW, HIGH);
        all("other", n -> x.gives(1, n, 1), BAD, -1, 1, 2, LOW, HIGH);
        due("BAD ahead of STATE", x.gives(0, 2, 5), BAD);
        due(x, 0, 0, 999);
    }

    private static void led() {
        promise = 25;
        ThirdAfter x = four();
        x.comes(0);
        x.comes(1);
        x.evening();
        x.comes(2);
        x.mend(0, 0, 5);
        x.comes(0);
        x.comes(3);
        x.gives(3, 0, 7);
        x.gives(3, 0, 999);
        x.evening();
        // 0 owed 20, 1 owed 10, 2 owed 0, 0 owed 20 of which 5 came
        int[] due = {5, 35, 15, 2, 7};
        for (int what = 0; what < 5; what++) {
            due("led(" + what + ")", x.led(what), due[what]);
        }
        all("led", x::led, BAD, -1, 5, LOW, HIGH);
    }

    private static void imageAndBack() {
        promise = 26;
        ThirdAfter x = four();
        x.comes(0);
        x.comes(1);
        x.gives(3, 2, 5);
        x.evening();
        x.comes(0);
        due("image", x.image(), 3);
        promise = 27;
        law(x, "n*10+o*3+d");
        x.buyer(1, 1);
        x.comes(4);
        x.comes(4);
        x.comes(0);
        x.gives(4, 0, 8);
        x.evening();
        x.mend(0, 4, 2);
        x.mend(0, 1, 9);
        x.mend(0, 5, 0);
        x.mend(1, 0, 77);
        int his = x.of(4, 0);
        due("back", x.back(), 3);
        due(x, 0, 90, 110, 105, 95, his);
        due("DAY", x.of(0, 6), 1);
        due("THE BOOK", x.count(1), 1);
        due("who owes", x.book(0, 0), 0);
        due("how much", x.book(0, 1), 20);
        int[] due = {3, 30, 0, 1, 5};
        for (int what = 0; what < 5; what++) {
            due("led(" + what + ")", x.led(what), due[what]);
        }
        due("THIRD is no part of it", x.of(0, 4), 2);
        due("WANTS are no part of it", x.of(0, 1), 9);
        due("DOGS are no part of it", x.of(0, 5), 0);
        due("CHANGES stay", x.count(3), 5);
        due("BUYERS stay", x.count(0), 5);
        x.comes(0);
        due("n, o are laid back: 10 and 3, and DAY", x.book(1, 1), 14);
        due("back again", x.back(), 3);
        due("one more may be told undone", x.undo(), 4);
        due("its PURSE is what it was ahead of the change", x.of(1, 0), 110);
        x.comes(2);
        due("another image", x.image(), 4);
        x.comes(2);
        due("back to the other", x.back(), 4);
    }

    private static void undoAndRedo() {
        ThirdAfter x = market(3, 5, 4, 4);
        int[] number = {1, 1, 1, 1, 0, 0, 0}, v = {55, 8, 7, 1, 5, 0, 42};
        int[] was = new int[7];
        for (int what = 0; what < 7; what++) {
            was[what] = x.mend(number[what], what, v[what]);
            x.mend(number[what], what, v[what]);
            x.mend(number[what], what, -1);
        }
        due("changes", x.count(3), 7);
        for (int what = 6; what >= 0; what--) {
            promise = 28;
            due("undo()", x.undo(), what);
            due("as it was", x.of(number[what], what), was[what]);
        }
        due("undo()", x.undo(), STATE);
        for (int what = 0; what < 7; what++) {
            promise = 29;
            due("redo()", x.redo(), 6 - what);
            due("as it became", x.of(number[what], what), v[what]);
        }
        due("redo()", x.redo(), STATE);
        x.undo();
        x.undo();
        due("telling the same is none", x.mend(0, 4, x.of(0, 4)), 5);
        x.comes(0);
        x.gives(0, 1, 5);
        x.evening();
        due("deeds are none", x.redo(), 1);
        due("another comes", x.mend(0, 2, 1), 5);
        due("none may be done again", x.redo(), STATE);
        promise = 28;
        due("undo of the other", x.undo(), 6);
        due("HASTE", x.of(0, 2), 5);
        ThirdAfter y = market(1, 1);
        for (int i = 1; i <= 41; i++) {
            y.mend(0, 0, i);
        }
        due("40 at most", y.count(3), 40);
        for (int i = 39; i >= 0; i--) {
            due("undo()", y.undo(), i);
        }
        due("undo()", y.undo(), STATE);
        due("the oldest stays done", y.of(0, 0), 1);
        promise = 29;
        for (int i = 39; i >= 0; i--) {
            due("redo()", y.redo(), i);
        }
        due("the latest", y.of(0, 0), 41);
        // of 45 unlike changes the oldest 5 are told no more
        ThirdAfter many = market(0, 0, 0, 0, 0, 0);
        int[] whose = new int[45], which = new int[45], ahead = new int[45], behind = new int[45];
        for (int i = 0; i < 45; i++) {
            whose[i] = i % 3;
            which[i] = i % 7 % 3;
            ahead[i] = many.of(whose[i], which[i]);
            behind[i] = (ahead[i] + 1 + i % 5) % 10;
            due("mend()", many.mend(whose[i], which[i], behind[i]), ahead[i]);
        }
        promise = 28;
        for (int i = 44; i >= 5; i--) {
            due("undo()", many.undo(), i - 5);
            due("as it was ahead of change " + i, many.of(whose[i], which[i]), ahead[i]);
        }
        due("no more", many.undo(), STATE);
        promise = 29;
        for (int i = 5; i < 45; i++) {
            due("redo()", many.redo(), 44 - i);
            due("as it was behind change " + i, many.of(whose[i], which[i]), behind[i]);
        }
        // PURSES by deeds are no changes: undone is what was told
        ThirdAfter z = market(1, 1, 1, 1);
        z.mend(0, 0, 60);
        z.gives(0, 1, 10);
        promise = 28;
        due("undo()", z.undo(), 0);
        due("PURSE", z.of(0, 0), 100);
        promise = 29;
        due("redo()", z.redo(), 0);
        due("PURSE", z.of(0, 0), 60);
    }

    private static void bodies() {
        promise = 30;
        ThirdAfter x = new ThirdAfter();
        all("body", x::body, BAD, -1, 8, LOW, HIGH);
        for (int i = 0; i < 50; i++) {
            due("body", x.body(i % 8), i);
        }
        due("body of 51", x.body(0), FULL);
        due("a bad one of 51", x.body(8), BAD);
        due("count", x.count(4), 50);
    }

    private static void trace(ThirdAfter x, int... bodies) {
        int before = promise;
        promise = 32;
        due("how many ran", x.count(5), bodies.length);
        for (int i = 0; i < bodies.length; i++) {
            due("trace(" + i + ")", x.trace(i), bodies[i]);
        }
        due("trace behind", x.trace(bodies.length), BAD);
        promise = before;
    }

    private static void acts() {
        promise = 31;
        ThirdAfter x = new ThirdAfter();
        for (int kind = 0; kind < 8; kind++) {
            x.body(kind);
        }
        x.body(7);
        due("PURSE owes: ((10 + 7) + 3) * 2 + ((2 ^ 7) - ((2 + 7) + 3))", x.act(7, 1, 10), 33);
        trace(x, 80, 10, 20, 1, 50, 11, 20, 1);
        due("PURSE tells: owes(10) - pays(1) - 1", x.act(7, 3, 10), 33 - (6 - 12) - 1);
        trace(x, 81, 2, 80, 10, 20, 1, 50, 11, 20, 1, 50, 11, 20, 1);
        due("another number", x.act(8, 0, 10), 21);
        due("PURSE pays", x.act(7, 2, 10), 13 - 12);
        trace(x, 50, 11, 20, 1);
        due("HOUND comes", x.act(6, 0, -20), -28);
        trace(x, 70, 1);
        due("HOUND owes", x.act(6, 1, -20), -56);
        trace(x, 10, 70, 1);
        due("DUSK tells: (-(2 * (9 + 5)) - (1 ^ 5) * 3) ^ 5", x.act(5, 3, 8), (-28 - 12) ^ 5);
        trace(x, 60, 2, 41, 30, 10, 1, 40, 11);
        due("ints wrap", x.act(1, 1, HIGH), (HIGH + 4) * 2);
        due("COW owes at the end", x.act(3, 1, HIGH), -(LOW + 3) * 2);
        due("RENT tells", x.act(4, 3, 15), 2 * (15 + 4 + 3) - ((1 ^ 4) - (2 + 4 + 3)));
        int[][] wrongOnes = {{9, 0}, {-1, 0}, {50, 0}, {LOW, 0}, {HIGH, 0}, {0, -1}, {0, 4}, {0, LOW}, {0, HIGH}};
        for (int[] bad : wrongOnes) {
            x.act(7, 3, 1);
            due("no such", x.act(bad[0], bad[1], 5), 0);
            trace(x);
        }
        x.act(7, 3, 1);
        promise = 32;
        all("trace", x::trace, BAD, -1, 14, 24, LOW, HIGH);
    }

    private static void keepAndTaken() {
        ThirdAfter x = new ThirdAfter();
        int[] above = {-1, 0, 0, 2, 1, 3, 0, 4};
        for (int kind = 0; kind < 8; kind++) {
            x.body(7 - kind);
        }
        for (int kind = 0; kind < 8; kind++) {
            promise = 33;
            due("keep", x.keep(5, 7 - kind), 1);
            promise = 38;
            for (int k = 0; k < 8; k++) {
                boolean under = false;
                for (int up = kind; up >= 0; up = above[up]) {
                    under |= up == k;
                }
                due("a " + kind + " taken for a " + k, x.taken(5, k), under ? kind : -12);
            }
        }
        all("k", k -> x.taken(5, k), BAD, -1, 8, LOW, HIGH);
        all("shelf", s -> x.taken(s, 0), BAD, -1, 6, LOW, HIGH);
        due("nothing", x.taken(0, 0), -11);
        due("BAD ahead of -11", x.taken(0, 8), BAD);
        x.row(0, 0, 3);
        due("a ROW", x.taken(0, 0), -12);
        promise = 33;
        due("a LATCH for a ROW", x.keep(0, 2), 1);
        due("then taken", x.taken(0, 0), 5);
        due("and on another", x.keep(1, 2), 1);
        due("nothing", x.keep(0, -1), 1);
        due("then taken", x.taken(0, 0), -11);
        due("no element", x.put(0, 0, 1), -11);
        due("the other's", x.taken(1, 0), 5);
        all("shelf", s -> x.keep(s, 0), BAD, -1, 6, LOW, HIGH);
        all("body", b -> x.keep(1, b), BAD, -2, 8, 50, LOW, HIGH);
        due("as it was", x.taken(1, 3), 5);
    }

    private static void rows() {
        promise = 34;
        ThirdAfter x = new ThirdAfter();
        due("row", x.row(2, 2, 60), 1);
        all("n", n -> x.row(2, 2, n), BAD, 61, HIGH);
        all("n below 0", n -> x.row(2, 2, n), -14, -1, LOW);
        all("sort", s -> x.row(2, s, -1), BAD, -1, 5, LOW, HIGH);
        all("shelf", s -> x.row(s, 0, -1), BAD, -1, 6, LOW, HIGH);
        promise = 35;
        due("the last", x.put(2, 59, 7), 1);
        due("as it was", (int) x.element(2, 59), 7);
        promise = 34;
        x.row(2, 2, 60);
        due("anew", (int) x.element(2, 59), 0);
        long v = 0x123456789ABCDEF0L - 0x70;
        long[] kept = {(byte) v, (short) v, (int) v, v, 1};
        for (int sort = 0; sort < 5; sort++) {
            promise = 34;
            due("row", x.row(sort, sort, 2), 1);
            promise = 36;
            due("at first", x.element(sort, 1), 0);
            promise = 35;
            due("put", x.put(sort, 1, v), 1);
            promise = 36;
            due("element of sort " + sort, x.element(sort, 1), kept[sort]);
            due("the other", x.element(sort, 0), 0);
            x.put(sort, 1, 256);
            due("256 in sort " + sort, x.element(sort, 1), sort == 0 ? 0 : sort == 4 ? 1 : 256);
            x.put(sort, 1, Long.MIN_VALUE);
            due("the lowest in sort " + sort, x.element(sort, 1), sort == 3 ? Long.MIN_VALUE : sort == 4 ? 1 : 0);
            x.put(sort, 1, -1);
            due("-1 in sort " + sort, x.element(sort, 1), sort == 4 ? 1 : -1);
            x.put(sort, 1, 0);
            due("0 in sort " + sort, x.element(sort, 1), 0);
            int s = sort;
            promise = 35;
            all("place", i -> x.put(s, i, 5), -13, -1, 2, 60, LOW, HIGH);
            promise = 36;
            all("place", i -> x.element(s, i) == Long.MIN_VALUE ? 1 : 0, 1, -1, 2, 60, LOW, HIGH);
        }
        x.row(0, 0, 0);
        x.body(0);
        x.keep(4, 0);
        promise = 35;
        due("of no elements", x.put(0, 0, 1), -13);
        due("nothing", x.put(5, 0, 1), -11);
        due("a LATCH", x.put(4, 0, 1), -12);
        all("shelf", s -> x.put(s, 0, 1), BAD, -1, 6, LOW, HIGH);
        promise = 36;
        all("refused", s -> x.element(s, 0) == Long.MIN_VALUE ? 1 : 0, 1, -1, 6, LOW, HIGH, 0, 5, 4);
    }

    private static void dueCells(ThirdAfter x, int shelf, long... v) {
        for (int i = 0; i < v.length; i++) {
            due("element(" + shelf + ", " + i + ")", x.element(shelf, i), v[i]);
        }
    }

    private static void shift() {
        promise = 37;
        ThirdAfter x = new ThirdAfter();
        row(x, 0, 2, 1, 2, 3, 4, 5);
        row(x, 1, 2, 6, 7, 8);
        due("to another", x.shift(0, 1, 1, 0, 2), 2);
        dueCells(x, 1, 2, 3, 8);
        dueCells(x, 0, 1, 2, 3, 4, 5);
        due("to the same, up", x.shift(0, 0, 0, 1, 4), 4);
        dueCells(x, 0, 1, 1, 2, 3, 4);
        due("to the same, down", x.shift(0, 2, 0, 0, 3), 3);
        dueCells(x, 0, 2, 3, 4, 3, 4);
        due("none", x.shift(0, 5, 1, 3, 0), 0);
        due("whole", x.shift(1, 0, 0, 2, 3), 3);
        dueCells(x, 0, 2, 3, 2, 3, 8);
        all("n", n -> x.shift(0, 0, 1, 0, n), -13, 4, -1, LOW, HIGH);
        all("i", i -> x.shift(0, i, 1, 0, 1), -13, 5, -1, LOW, HIGH);
        all("i of none", i -> x.shift(0, i, 1, 0, 0), -13, 6, -1, LOW, HIGH);
        all("j", j -> x.shift(0, 0, 1, j, 1), -13, 3, -1, LOW, HIGH);
        all("j of none", j -> x.shift(0, 0, 1, j, 0), -13, 4, -1, LOW, HIGH);
        all("shelf", s -> x.shift(s, 0, 1, 0, 1), BAD, -1, 6, LOW, HIGH);
        all("other", s -> x.shift(0, 0, s, 0, 1), BAD, -1, 6, LOW, HIGH);
        due("nothing there", x.shift(2, 0, 1, 0, 1), -11);
        due("nothing to come to", x.shift(0, 0, 2, 0, 1), -11);
        x.body(0);
        x.keep(3, 0);
        due("a LATCH", x.shift(3, 0, 1, 0, 1), -12);
        due("to a LATCH", x.shift(0, 0, 3, 0, 1), -12);
        due("either nothing ahead of a LATCH", x.shift(3, 0, 2, 0, 1), -11);
        x.row(4, 3, 5);
        due("of unlike sorts", x.shift(0, 0, 4, 0, 1), -12);
        due("-12 ahead of -13", x.shift(0, 0, 4, 0, 9), -12);
        dueCells(x, 0, 2, 3, 2, 3, 8);
    }

    private static void count() {
        promise = 39;
        ThirdAfter x = four();
        x.mend(0, 4, 3);
        x.comes(0);
        x.comes(0);
        x.feed(1);
        x.feed(1);
        x.feed(1);
        x.mend(0, 0, 1);
        x.mend(0, 0, 2);
        x.mend(0, 0, 3);
        x.undo();
        x.body(1);
        x.act(0, 1, 1);
        int[] due = {4, 2, 3, 4, 1, 3};
        for (int what = 0; what < 6; what++) {
            due("count(" + what + ")", x.count(what), due[what]);
        }
        all("count", x::count, BAD, -1, 6, LOW, HIGH);
    }

    /** What names no BUYER is answered where nobody is, too. */
    private static void thoughtWithNobody() {
        ThirdAfter x = new ThirdAfter();
        x.row(0, 0, 5);
        x.row(1, 0, 0);
        promise = 10;
        due("coming(0, 0, 0)", x.coming(0, 0, 0), NOT);
        promise = 11;
        due("LACKING", x.later(0, 20, -1), 0);
        due("PURSE", x.later(0, 20, 0), BAD);
        promise = 18;
        due("none come, none seen", x.judge(1), NOT);
        due("none come, five seen", x.judge(0), 0);
        promise = 19;
        due("THIRDS of none seen", x.fits(1, 0, 0), 62);
        due("THIRDS of five seen", x.fits(0, 0, 0), 0);
        due("WHOSE", x.fits(1, 0, 1), BAD);
        due("WANTED", x.fits(1, 0, 2), BAD);
        promise = 21;
        due("LACKING by draws", x.drawn(0, 11112, -1), 0);
    }

    /** What is only thought of leaves all as it is. */
    private static void thoughtChangesNothing() {
        promise = 9;
        ThirdAfter x = four();
        x.comes(3);
        comings(x, 0, 0, 1, 2, 3);
        comings(x, 1, 9, 0);
        x.market(0, 0, 3);
        x.coming(0, 1, 0);
        x.later(0, 20, 1);
        x.onceMore(0, 1, 1);
        x.hired(0, 1, 1, 1);
        x.latch(0, 1, 1);
        x.order(15, 1, 1);
        x.flow(0, 1);
        x.round(0, 1);
        x.judge(1);
        for (int what = 0; what < 4; what++) {
            x.fits(1, 0, what);
        }
        x.byTurns(1, 5, 0);
        x.drawn(5, 306012, 1);
        due(x, 0, 100, 100, 100, 100);
        due(x, 1, 4, 2, 0, 9);
        due("THIRD", x.of(0, 4), 1);
        due("DAY", x.of(0, 6), 0);
        due("debts", x.count(1), 1);
        due("how much", x.book(0, 1), 54);
        due("led", x.led(0) * 10000 + x.led(1) * 100 + x.led(2) * 10 + x.led(3), 10000);
        due("CHANGES", x.count(3), 1);
        dueCells(x, 0, 0, 1, 2, 3);
        dueCells(x, 1, 9, 0);
        due("o goes on as it was", x.comes(3), 0);
        due("second time", x.book(0, 1), 52);
    }
}
