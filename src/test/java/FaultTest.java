import java.util.BitSet;
import java.util.Random;

/**
 * FAULTS of short texts, one and all, and of random long ones: "the place (from 0) of the first byte with which no TEXT
 * goes on; the length, if it ends too early". Due is what the document's lines for a TEXT give when they are followed
 * word by word: all ends that a part can have are kept, and a byte is at fault if nothing behind it makes a TEXT.
 */
public final class FaultTest {
    private static final int MOST_OPEN = 6, SHORT = 4, RANDOM = 6000;

    private final String text;

    private FaultTest(String of) {
        text = of;
    }

    private boolean at(int place, String signs) {
        return place < text.length() && signs.indexOf(text.charAt(place)) >= 0;
    }

    /** What follows a sign, or does not: the ends of one more part behind each end that has a sign there. */
    private BitSet behind(BitSet ends, String signs, int open, int part) {
        BitSet more = new BitSet();
        ends.stream().filter(e -> at(e, signs)).forEach(e -> more.or(ends(part, e + 1, open)));
        return more;
    }

    private BitSet repeated(int part, String signs, int from, int open) {
        BitSet all = new BitSet();
        BitSet next = ends(part, from, open);
        while (!next.isEmpty()) {
            all.or(next);
            next = behind(next, signs, open, part);
            next.andNot(all);
        }
        return all;
    }

    private BitSet perhaps(int part, String signs, int from, int open, int second) {
        BitSet ends = ends(part, from, open);
        ends.or(behind(ends, signs, open, second));
        return ends;
    }

    private static final int TEXT = 0, LINE = 1, E = 2, A = 3, B = 4, S = 5, P = 6, O = 7;

    /** Where a part that begins at a place can end. */
    private BitSet ends(int part, int from, int open) {
        return switch (part) {
            case TEXT -> repeated(LINE, ";", from, open);
            case LINE -> perhaps(E, "?", from, open, E);
            case E -> repeated(A, "|", from, open);
            case A -> repeated(B, "&", from, open);
            case B -> perhaps(S, "<=>", from, open, S);
            case S -> repeated(P, "+-", from, open);
            case P -> repeated(O, "*/%", from, open);
            default -> endsOfO(from, open);
        };
    }

    private BitSet endsOfO(int from, int open) {
        BitSet ends = new BitSet();
        for (int n = 1; n <= 4 && at(from + n - 1, "0123456789"); n++) {
            ends.set(from + n);
        }
        if (at(from, "wphnod")) {
            ends.set(from + 1);
        }
        if (at(from, "!-") && open < MOST_OPEN) {
            ends.or(endsOfO(from + 1, open + 1));
        }
        if (at(from, "(") && open < MOST_OPEN) {
            ends(E, from + 1, open + 1).stream().filter(e -> at(e, ")")).forEach(e -> ends.set(e + 1));
        }
        return ends;
    }

    private static boolean isText(String text) {
        return new FaultTest(text).ends(TEXT, 0, 0).get(text.length());
    }

    /** Whether something behind it makes a TEXT of it: an O if one is due, and a ) for each ( that is open. */
    private static boolean goesOn(String text) {
        String closed = "";
        for (int open = 0; open <= MOST_OPEN; open++) {
            if (isText(text + closed) || isText(text + "1" + closed)) {
                return true;
            }
            closed += ")";
        }
        return false;
    }

    private static int due(String text) {
        for (int i = 0; i < text.length(); i++) {
            if (!goesOn(text.substring(0, i + 1))) {
                return -100 - i;
            }
        }
        return isText(text) ? 1 : -100 - text.length();
    }

    private static int texts = 0, wrong = 0;

    private static void check(String text) {
        ThirdAfter x = new ThirdAfter();
        for (char c : text.toCharArray()) {
            x.feed(c);
        }
        int got = x.law(), want = due(text);
        texts++;
        if (got != want && ++wrong < 20) {
            System.out.println("law() of " + text + " answered " + got + ", due is " + want);
        }
    }

    private static void checkAll(String begun, int more) {
        check(begun);
        if (more > 0) {
            for (char c : "1w!-()?;<|&*+x".toCharArray()) {
                checkAll(begun + c, more - 1);
            }
        }
    }

    /** Of all, of what is open at once, and of numbers for the most part. */
    private static final String[] SIGNS = {"11wphnod!-()|&<=>+*/%?;09", "(!-(!-(!-w1)))+?;", "1234567890+w"};

    /** Grows as long as it may go on, but now and then by a byte that may not stand there. */
    private static String grown(Random random) {
        String signs = SIGNS[random.nextInt(SIGNS.length)];
        StringBuilder text = new StringBuilder();
        int length = random.nextInt(25);
        for (int tries = 0; tries < 1000 && text.length() < length; tries++) {
            int any = random.nextInt(40);
            char c = any == 0 ? (char) random.nextInt(256) : signs.charAt(random.nextInt(signs.length()));
            if (any <= 1 || goesOn(text.toString() + c)) {
                text.append(c);
            }
        }
        return text.toString();
    }

    public static void main(String[] args) {
        checkAll("", SHORT);
        Random random = new Random(11);
        for (int i = 0; i < RANDOM; i++) {
            check(grown(random));
        }
        System.out.println(texts + " texts, " + wrong + " of them not as due");
        System.exit(wrong == 0 ? 0 : 1);
    }
}
