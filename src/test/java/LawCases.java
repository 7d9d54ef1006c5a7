/** Boundary cases of promise 7: a TEXT's LINES, signs, ints, FAULTS, and for how much is bought by it. */
final class LawCases {
    private LawCases() { }

    /** One buyer of WANTS 3, HASTE 5, PURSE 90 on DAY 7, who comes next in a ROW on SHELF 0. */
    private static ThirdAfter one() {
        ThirdAfter x = Markets.of(3, 5);
        x.mend(0, 0, 90);
        x.mend(0, 6, 7);
        Markets.comings(x, 0, 0);
        return x;
    }

    /** For how much he buys by a text. */
    private static void buys(String text, int much) {
        ThirdAfter x = one();
        Cases.due("law() of " + text, Markets.law(x, text), 1);
        Cases.due("by " + text + " he", x.coming(0, 0, 2), much);
    }

    private static void faultOf(String text, int place) {
        ThirdAfter x = one();
        Cases.due("law() of " + text, Markets.law(x, text), -100 - place);
        Cases.due("THE TAPE behind " + text, x.count(2), 0);
        Cases.due("THE LAW behind " + text + ": he", x.coming(0, 0, 2), 20);
    }

    private static boolean isIn(String signs, int letter) {
        return letter > 0 && signs.indexOf((char) letter) >= 0;
    }

    /** Every byte behind a beginning: those that end a text, those that one goes on with, all else is a FAULT. */
    private static void everyByteBehind(String beginning, String ending, String goingOn) {
        for (int letter = 0; letter <= 255; letter++) {
            ThirdAfter x = new ThirdAfter();
            Markets.feed(x, beginning);
            x.feed(letter);
            int due = isIn(ending, letter) ? 1 : -100 - beginning.length() - (isIn(goingOn, letter) ? 1 : 0);
            Cases.due("law() of " + beginning + " and byte " + letter, x.law(), due);
        }
    }

    // ---- the length of a text

    @Says(promise = 7, value = "THE LAW is a TEXT by THE TAPE (at most 120 bytes)")
    static void p07ATextOf120Bytes() {
        StringBuilder b = new StringBuilder("7");
        while (b.length() < 117) {
            b.append("+0");
        }
        buys(b + "+17", 24);
        faultOf(b + "+1)", 119);
        StringBuilder lines = new StringBuilder("0?1");
        while (lines.length() < 115) {
            lines.append(";0?1");
        }
        buys(lines + ";0063", 63);
        // each byte is a number or a sign of its own: 60 ones with 59 signs between, and one ahead
        StringBuilder each = new StringBuilder("-1");
        while (each.length() < 120) {
            each.append("+1");
        }
        buys(each.toString(), 58);
    }

    @Says(promise = 7, value = "THE TAPE becomes THE LAW: 1; -100 less its FAULT; THE TAPE is empty then.")
    static void p07ATextOfOneByteAndOfNone() {
        buys("w", 3);
        buys("0", 0);
        faultOf("", 0);
        faultOf("+", 0);
    }

    @Says(promise = 7, value = "THE TAPE becomes THE LAW: 1")
    static void p07ALawAfterALaw() {
        ThirdAfter x = one();
        Cases.due("law()", Markets.law(x, "8"), 1);
        Cases.due("law() of an empty TAPE", x.law(), -100);
        Cases.due("as it was", x.coming(0, 0, 2), 8);
        Cases.due("law() of 9+", Markets.law(x, "9+"), -102);
        Cases.due("as it was", x.coming(0, 0, 2), 8);
        Cases.due("law() of 6", Markets.law(x, "6"), 1);
        Cases.due("the latest", x.coming(0, 0, 2), 6);
        Markets.feed(x, "5");
        Cases.due("THE TAPE alone is no LAW", x.coming(0, 0, 2), 6);
        Cases.due("law() of 5", x.law(), 1);
        Cases.due("the latest", x.coming(0, 0, 2), 5);
    }

    // ---- lines

    @Says(promise = 7, value = "LINES, one or more, parted by ;")
    static void p07LinesArePartedNotEnded() {
        buys("4", 4);
        buys("0?1;4", 4);
        buys("4;0?1", 4);
        faultOf(";", 0);
        faultOf(";4", 0);
        faultOf("4;", 2);
        faultOf("4;;5", 2);
        faultOf("4;+", 2);
        faultOf("4,5", 1);
    }

    @Says(promise = 7, value = "LINE: E, or E ? E (what counts if the first is not 0).")
    static void p07WhatIsNot0() {
        buys("0?7;8", 8);
        buys("1?7;8", 7);
        buys("-1?7;8", 7);
        buys("2?7;8", 7);
        buys("256?7;8", 7);
        buys("9999?7;8", 7);
        buys("8192*8192*32?7;8", 7);
        buys("8192*8192*64?7;8", 8);
        buys("1?0;8", 0);
        faultOf("1?2?3", 3);
        faultOf("1?", 2);
        faultOf("?1", 0);
        faultOf("1?;2", 2);
        faultOf("(1?2)", 2);
    }

    @Says(promise = 7, value = "The first LINE without a first E, or whose first E is not 0, counts; none: 0.")
    static void p07TheFirstThatCountsOrNone() {
        buys("0?7", 0);
        buys("0?7;0?8;0?9", 0);
        buys("0?7;0?8;1?9", 9);
        buys("5;6", 5);
        buys("0;6", 0);
        buys("0?7;0;6", 0);
        buys("1?5;1?6", 5);
        buys("0?5;w-3?6;w-2?7;9", 7);
    }

    // ---- signs

    @Says(promise = 7, value = "A = B { & B }. B = S, or S < S, S = S, S > S.")
    static void p07OneComparisonAtMost() {
        for (String sign : new String[] {"<", "=", ">"}) {
            for (String other : new String[] {"<", "=", ">"}) {
                faultOf("1" + sign + "2" + other + "3", 3);
                buys("(1" + sign + "2)" + other + "9", other.equals("<") ? 1 : 0);
                buys("1" + sign + "2&1" + other + "2", sign.equals("<") && other.equals("<") ? 1 : 0);
            }
        }
        faultOf("1<", 2);
        faultOf("1<=2", 2);
        faultOf("1==2", 2);
    }

    @Says(promise = 7, value = "| & < = > ! give 1, 0; all is worked out.")
    static void p07WhatGives1And0() {
        String[] texts = {"0|0", "0|7", "7|0", "2|4", "-1|0", "0|-1", "0&0", "0&7", "7&0", "2&4", "-1&-1", "1<2", "2<2",
            "3<2", "-1<0", "0<-1", "1=2", "2=2", "3=2", "-1=-1", "1>2", "2>2", "3>2", "0>-1", "-1>0", "!0", "!1", "!7",
            "!-1", "!!7", "!!0", "8192*8192*32<1", "1>8192*8192*32", "8192*8192*32-1>0-1", "8192*8192*64|0"};
        int[] due = {0, 1, 1, 1, 1, 1, 0, 0, 0, 1, 1, 1, 0,
            0, 1, 0, 0, 1, 0, 1, 0, 0, 1, 1, 0, 1, 0, 0,
            0, 1, 0, 1, 1, 1, 0};
        for (int i = 0; i < texts.length; i++) {
            buys(texts[i] + "?1;0", due[i]);
            buys("(" + texts[i] + ")*7+2", due[i] * 7 + 2);
        }
        buys("1|7/0", 1);
        buys("0&7/0", 0);
    }

    @Says(promise = 7, value = "E = A { | A }. A = B { & B }.")
    static void p07WhatBindsFirst() {
        buys("1|1&0", 1);
        buys("0&0|1", 1);
        buys("(1|1)&0", 0);
        buys("1|0<0", 1);
        buys("2=1+1", 1);
        buys("1+2*3", 7);
        buys("(1+2)*3", 9);
        buys("9-4-3", 2);
        buys("9-(4-3)", 8);
        buys("8/4/2", 1);
        buys("8/(4/2)", 4);
        buys("7*3%5", 1);
        buys("7*(3%5)", 21);
        buys("-3+5", 2);
        buys("!0+5", 6);
        buys("!(0+5)", 0);
        buys("2--3", 5);
        buys("2*-3+9", 3);
    }

    @Says(promise = 7, value = "O = a number (1 to 4 digits), a NAME, ! O, - O, ( E ).")
    static void p07NumbersOf1To4Digits() {
        buys("0", 0);
        buys("9", 9);
        buys("10", 10);
        buys("099", 99);
        buys("0007", 7);
        buys("9999-9998", 1);
        buys("9999=9999", 1);
        buys("0000", 0);
        faultOf("00000", 4);
        faultOf("12345", 4);
        faultOf("w+12345", 6);
        faultOf("1234w", 4);
    }

    @Says(promise = 7,
            value = "No blanks. NAMES: w WANTS, p PURSE as he comes in, h HASTE, n how many came in ahead that day, "
                    + "o how often he did himself, d DAY.")
    static void p07EveryByteThatMayCome() {
        everyByteBehind("", "0123456789wphnod", "(!-");
        everyByteBehind("w", "", "|&<=>+-*/%?;");
        everyByteBehind("1", "0123456789", "|&<=>+-*/%?;");
        everyByteBehind("123", "0123456789", "|&<=>+-*/%?;");
        everyByteBehind("1234", "", "|&<=>+-*/%?;");
        everyByteBehind("(w", ")", "|&<=>+-*/%");
        everyByteBehind("(w)", "", "|&<=>+-*/%?;");
        everyByteBehind("w<h", "", "|&+-*/%?;");
        everyByteBehind("w<h&w", "", "|&<=>+-*/%?;");
        everyByteBehind("(w=h", ")", "|&+-*/%");
        everyByteBehind("w?h", "", "|&<=>+-*/%;");
        everyByteBehind("w?h;w", "", "|&<=>+-*/%?;");
        for (String behind : new String[] {"(", "!", "-", "w|", "w&", "w<", "w=", "w>", "w+", "w-", "w*", "w/", "w%",
            "w?", "w;", "w?h;"}) {
            everyByteBehind(behind, behind.equals("(") ? "" : "0123456789wphnod",
                    behind.equals("(") ? "0123456789wphnod(!-" : "(!-");
        }
    }

    @Says(promise = 7, value = "At most 6 of ( ! - ahead of an O are open at once.")
    static void p07SixOpenAtOnce() {
        buys("((((((w))))))", 3);
        buys("!!!!!!w", 1);
        buys("------w", 3);
        buys("-(-(-(w)))+9", 6);
        buys("(!-(!-w))", 1);
        buys("!(!(!(w)))", 0);
        faultOf("(((((((w)))))))", 6);
        faultOf("!!!!!!!w", 6);
        faultOf("-------w", 6);
        faultOf("(!-(!-(w)))", 6);
        faultOf("((((((!w))))))", 6);
        faultOf("((((((-w))))))", 6);
        faultOf("!!!!!!-w", 6);
        faultOf("!!!!!!(w)", 6);
        faultOf("w+((((((!w))))))", 8);
        faultOf("w?((((((-w))))))", 8);
        faultOf("w;!!!!!!!w", 8);
        faultOf("(((((((", 6);
        faultOf("((((((", 6);
        faultOf("(((((w+!!w)))))", 8);
    }

    @Says(promise = 7, value = "are open at once")
    static void p07WhatIsClosedIsNotOpen() {
        buys("(w)+(w)+(w)+(w)+(w)+(w)+(w)+(w)", 24);
        buys("!w+!w+!w+!w+!w+!w+!w+!w+4", 4);
        buys("-w+-w+-w+-w+-w+-w+-w+-w+30", 6);
        buys("30-w-w-w-w-w-w-w-w", 6);
        buys("(((((w-w-w-w-w-w-w-w+30)))))", 12);
        buys("(((((!w+!w+!w+(w)+-w+9)))))", 9);
        buys("(((((w+(w)+(w))))))", 9);
        buys("!!!!!!w+((((((w))))))", 4);
        buys("!!!!!!w*((((((w))))))", 3);
        buys("!!!!!!w<((((((w))))))", 1);
        buys("!!!!!!w&((((((w))))))", 1);
        buys("!!!!!!w|((((((w))))))", 1);
        buys("!!!!!!w?((((((w))))))", 3);
        buys("!!!!!!0?1;((((((w))))))", 3);
    }

    // ---- ints

    @Says(promise = 7, value = "Ints that wrap")
    static void p07IntsWrap() {
        // 8192 * 8192 * 32 is one more than the most that an int holds
        String lowest = "8192*8192*32";
        buys(lowest + "<0", 1);
        buys(lowest + "-1>0", 1);
        buys(lowest + "-1+1<0", 1);
        buys("-(" + lowest + ")<0", 1);
        buys("0-(" + lowest + ")<0", 1);
        buys("8192*8192*64=0", 1);
        buys(lowest + "*-1<0", 1);
        buys("(" + lowest + "-1)%100", 47);
        buys("(" + lowest + "-1)*2=-2", 1);
        buys(lowest + "+" + lowest + "+6", 6);
        buys("9999*9999*9999%1000+50", 9999 * 9999 * 9999 % 1000 + 50 < 0 ? 0
                : Math.min(99, 9999 * 9999 * 9999 % 1000 + 50));
    }

    @Says(promise = 7, value = "/ and % toward 0")
    static void p07TowardNought() {
        buys("7/2", 3);
        buys("-7/2+9", 6);
        buys("7/-2+9", 6);
        buys("-7/-2", 3);
        buys("7%4", 3);
        buys("-7%4+9", 6);
        buys("7%-4", 3);
        buys("-7%-4+9", 6);
        buys("-1/2+9", 9);
        buys("-8/4+9", 7);
        buys("-8%4+9", 9);
        buys("8192*8192*32/-1<0", 1);
        buys("8192*8192*32%-1+9", 9);
        buys("8192*8192*32/1<0", 1);
    }

    @Says(promise = 7, value = "by 0 they give 0")
    static void p07By0() {
        buys("7/0+4", 4);
        buys("7%0+4", 4);
        buys("0/0+4", 4);
        buys("0%0+4", 4);
        buys("-7/(w-3)+4", 4);
        buys("-7%(w-3)+4", 4);
        buys("w/o+4", 4);
        buys("w%o+4", 4);
        buys("8192*8192*32/(8192*8192*64)+4", 4);
        buys("8192*8192*32%(8192*8192*64)+4", 4);
    }

    @Says(promise = 7, value = "It gives for how much he buys (held within 0 .. 99).")
    static void p07HeldWithin0And99() {
        buys("98", 98);
        buys("99", 99);
        buys("100", 99);
        buys("9999", 99);
        buys("1", 1);
        buys("0", 0);
        buys("-0", 0);
        buys("-1", 0);
        buys("-9999", 0);
        buys("8192*8192*32", 0);
        buys("8192*8192*32-1", 99);
        buys("0?5;-1", 0);
        buys("1?100", 99);
        ThirdAfter x = one();
        Markets.law(x, "100");
        x.comes(0);
        Cases.due("in deed, too", x.book(0, 1), 99);
        Markets.law(x, "0-1");
        x.comes(0);
        Cases.due("in deed, too", x.book(1, 1), 0);
    }

    // ---- names

    @Says(promise = 7, value = "p PURSE as he comes in")
    static void p07ThePurseAheadOfWhatHeIsPaid() {
        ThirdAfter x = Markets.four();
        Markets.law(x, "p/10");
        Markets.comings(x, 0, 0, 1, 1);
        Cases.due("he is paid", x.coming(0, 1, 1), 10);
        Cases.due("he buys by 100, not 110", x.coming(0, 1, 2), 10);
        x.mend(0, 0, 999);
        Markets.law(x, "p/9-12");
        Cases.due("by 999", x.coming(0, 0, 2), 99);
        x.mend(0, 0, 0);
        Markets.law(x, "p+7");
        Cases.due("by 0", x.coming(0, 0, 2), 7);
    }

    @Says(promise = 7, value = "n how many came in ahead that day, o how often he did himself")
    static void p07AheadOfHimNotWithHim() {
        ThirdAfter x = Markets.of(3, 5, 3, 5);
        Markets.law(x, "n*10+o");
        Markets.comings(x, 0, 0, 1, 0, 0, 1);
        int[] due = {0, 10, 21, 32, 41};
        for (int k = 0; k < due.length; k++) {
            Cases.due("coming(0, " + k + ", 2)", x.coming(0, k, 2), due[k]);
        }
        for (int k = 0; k < due.length; k++) {
            x.comes(k == 0 || k == 2 || k == 3 ? 0 : 1);
            Cases.due("in deed, the latest", x.book(Math.min(k, 2), 1), due[k]);
        }
    }

    @Says(promise = 7, value = "d DAY")
    static void p07TheLeastAndTheMostOfNames() {
        for (int most = 0; most <= 1; most++) {
            ThirdAfter x = Markets.of(9 * most, 9 * most);
            x.mend(0, 6, 99 * most);
            x.mend(0, 0, 999 * most);
            Markets.comings(x, 0, 0);
            String[] names = {"w", "h", "d", "p", "n", "o"};
            int[] due = {9, 9, 99, 99, 0, 0};
            for (int i = 0; i < names.length; i++) {
                Markets.law(x, names[i]);
                Cases.due(names[i], x.coming(0, 0, 2), due[i] * most);
            }
        }
    }

    // ---- faults

    @Says(promise = 7,
            value = "FAULT: the place (from 0) of the first byte with which no TEXT goes on; the length, if it ends "
                    + "too early.")
    static void p07TheFirstFault() {
        String[] texts = {"x", ")", "w)", "w+", "w+)", "()", "(w", "((w)", "w w", " w", "w ", "w\n", "W", "wp", "1w",
            "w1", "w&&h", "w||h", "w|", "w*/h", "w**h", "!", "!)", "-", "-)", "(", "(w;h)", "w?h?d", "w?h;p?",
            "w?h;p?d;",
            "x+y)", "w+)+)", "w!", "w(", "w-", "w--", "w(h)", "(w)(h)", "w\u00e9", "\u00ff", "\u0000", "w\u0000"};
        int[] places = {0, 0, 1, 2, 2, 1, 2, 4, 1, 0, 1, 1, 0, 1, 1, 1,
            2, 2, 2, 2, 2, 1, 1, 1, 1, 1, 2, 3, 6, 8,
            0, 2, 1, 1, 2, 3, 1, 3, 1, 0, 0, 1};
        for (int i = 0; i < texts.length; i++) {
            faultOf(texts[i], places[i]);
        }
    }

    @Says(promise = 7, value = "the length, if it ends too early")
    static void p07TheLengthUpTo120() {
        StringBuilder b = new StringBuilder("w");
        while (b.length() < 119) {
            b.append("+w");
        }
        faultOf(b.substring(0, 118), 118);
        faultOf(b + "+", 120);
        faultOf(b + ")", 119);
    }
}
