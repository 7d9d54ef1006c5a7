import java.util.ArrayList;
import java.util.List;
import java.util.Random;

/** Random runs of calls, each answered by ThirdAfter and by the Oracle. */
public final class OracleTest {
    private static final int RUNS = 4000, CALLS = 512;

    private final Random random;
    private final ThirdAfter x = new ThirdAfter();
    private final Oracle o = new Oracle();
    private final List<String> calls = new ArrayList<>();
    private boolean wrong = false;

    private OracleTest(long seed) {
        random = new Random(seed);
    }

    public static void main(String[] args) {
        int failed = 0;
        for (int run = 0; run < RUNS && failed < 5; run++) {
            OracleTest t = new OracleTest(run);
            t.run();
            if (t.wrong) {
                failed++;
                System.out.println("seed " + run + " goes wrong; its latest calls:");
                t.calls.subList(Math.max(0, t.calls.size() - 25), t.calls.size()).forEach(System.out::println);
            }
        }
        System.out.println(failed == 0 ? RUNS + " random runs are as due" : "random runs are not as due");
        System.exit(failed == 0 ? 0 : 1);
    }

    private void due(String call, long got, long want) {
        calls.add("  " + call + " answered " + got + (got == want ? "" : ", due is " + want));
        wrong |= got != want;
    }

    /** Mostly 0 .. n - 1, at times beside it. */
    private int about(int n) {
        int r = random.nextInt(60);
        if (r == 0) {
            return n;
        }
        if (r == 1) {
            return -1;
        }
        if (r == 2) {
            return new int[] {Integer.MAX_VALUE, Integer.MIN_VALUE, n + 1, -2, 60, 19, 20, 21}[random.nextInt(8)];
        }
        return n <= 0 ? 0 : random.nextInt(n);
    }

    private int one() {
        return about(o.s.people.size());
    }

    private void run() {
        int people = random.nextInt(9);
        for (int i = 0; i < people && !wrong; i++) {
            buyer();
        }
        // some runs feed texts, some are deeds for the most part, all do the rest
        boolean texts = random.nextInt(2) == 0, deeds = random.nextInt(8) == 0;
        while (calls.size() < CALLS && !wrong) {
            int r = random.nextInt(100);
            if (deeds && r < 90) {
                deed();
            } else if (r < 4 && texts) {
                tell(text());
            } else if (r < 20) {
                deed();
            } else if (r < 35) {
                fillRow();
            } else if (r < 65) {
                think();
            } else if (r < 80) {
                seen();
            } else if (r < 90) {
                shelfCall();
            } else if (r < 96) {
                latchCall();
            } else {
                look();
            }
        }
    }

    private void buyer() {
        int w = about(10), h = about(10);
        due("buyer(" + w + ", " + h + ")", x.buyer(w, h), o.buyer(w, h));
    }

    private void tell(String text) {
        for (int i = 0; i < text.length() && !wrong; i++) {
            int c = text.charAt(i);
            due("feed(" + c + ")", x.feed(c), o.feed(c));
        }
        due("law() of " + text, x.law(), o.law());
    }

    private String text() {
        StringBuilder b = new StringBuilder();
        int lines = 1 + random.nextInt(3);
        for (int i = 0; i < lines; i++) {
            b.append(i > 0 ? ";" : "");
            if (random.nextBoolean()) {
                b.append(expression(1 + random.nextInt(4))).append('?');
            }
            b.append(expression(1 + random.nextInt(5)));
        }
        if (b.length() > 120) {
            b.setLength(120 + random.nextInt(2));
        }
        if (random.nextInt(3) == 0) {
            char c = random.nextInt(4) == 0 ? (char) random.nextInt(256)
                    : "wphnod(!-)|&<=>+*/%?;0123456789 ".charAt(random.nextInt(32));
            int at = random.nextInt(b.length());
            switch (random.nextInt(3)) {
                case 0 -> b.setCharAt(at, c);
                case 1 -> b.insert(at, c);
                default -> b.setLength(at);
            }
        }
        return b.toString();
    }

    private String expression(int depth) {
        int r = random.nextInt(10);
        if (depth == 0 || r < 2) {
            return random.nextInt(3) == 0 ? "" + random.nextInt(new int[] {10, 100, 10000}[random.nextInt(3)])
                    : "" + "wphnod".charAt(random.nextInt(6));
        }
        if (r == 2) {
            return "(" + expression(depth - 1) + ")";
        }
        if (r == 3) {
            return "-!".charAt(random.nextInt(2)) + expression(depth - 1);
        }
        return expression(depth - 1) + "+-*/%+-*|&<=>".charAt(random.nextInt(13)) + expression(depth - 1);
    }

    private void fillRow() {
        int shelf = random.nextInt(6), n = random.nextInt(12) == 0 ? about(61) : random.nextInt(24);
        due("row(" + shelf + ", 0, " + n + ")", x.row(shelf, 0, n), o.row(shelf, 0, n));
        boolean seen = random.nextInt(3) == 0;
        for (int i = 0; i < Math.min(n, 61) && !wrong; i++) {
            int v = seen ? random.nextInt(10) : one();
            if (v != 0) {
                due("put(" + shelf + ", " + i + ", " + v + ")", x.put(shelf, i, v), o.put(shelf, i, v));
            }
        }
    }

    private void deed() {
        int a = one(), b = one();
        switch (random.nextInt(16)) {
            case 0 -> buyer();
            case 1 -> due("evening()", x.evening(), o.evening());
            case 2 -> {
                int v = random.nextInt(3) == 0 ? random.nextInt(1001) : random.nextInt(50);
                due("gives(" + a + ", " + b + ", " + v + ")", x.gives(a, b, v), o.gives(a, b, v));
            }
            case 3 -> due("image()", x.image(), o.image());
            case 4 -> due("back()", x.back(), o.back());
            case 5 -> due("undo()", x.undo(), o.undo());
            case 6 -> due("redo()", x.redo(), o.redo());
            case 7, 8, 9 -> {
                int what = about(7);
                int n = what < 4 && what >= 0 || random.nextInt(8) == 0 ? a : 0;
                int v = about(new int[] {1000, 10, 10, 2, 6, 2, 100}[Math.floorMod(what, 7)]);
                due("mend(" + n + ", " + what + ", " + v + ")", x.mend(n, what, v), o.mend(n, what, v));
            }
            default -> due("comes(" + a + ")", x.comes(a), o.comes(a));
        }
    }

    private void think() {
        int shelf = about(6), one = one(), what = about(2), k = about(14), four = about(4);
        int pair = one * 10 + one();
        switch (random.nextInt(10)) {
            case 0 -> {
                int told = four == 3 || random.nextInt(9) == 0 ? one : 0;
                due("market(" + shelf + ", " + told + ", " + four + ")", x.market(shelf, told, four),
                        o.market(shelf, told, four));
            }
            case 1 -> {
                int three = about(3);
                due("coming(" + shelf + ", " + k + ", " + three + ")", x.coming(shelf, k, three),
                        o.coming(shelf, k, three));
            }
            case 2 -> {
                int who = random.nextInt(3) == 0 ? -1 : one, n = about(21);
                due("later(" + shelf + ", " + n + ", " + who + ")", x.later(shelf, n, who), o.later(shelf, n, who));
            }
            case 3 -> due("onceMore(" + shelf + ", " + one + ", " + what + ")", x.onceMore(shelf, one, what),
                    o.onceMore(shelf, one, what));
            case 4 -> due("hired(" + shelf + ", " + k + ", " + one + ", " + what + ")",
                    x.hired(shelf, k, one, what), o.hired(shelf, k, one, what));
            case 5 -> due("latch(" + shelf + ", " + one + ", " + what + ")", x.latch(shelf, one, what),
                    o.latch(shelf, one, what));
            case 6 -> {
                int set = about(1 << o.s.people.size()), place = about(6) - 1;
                due("order(" + set + ", " + one + ", " + place + ")", x.order(set, one, place),
                        o.order(set, one, place));
            }
            case 7 -> due("flow(" + shelf + ", " + pair + ")", x.flow(shelf, pair), o.flow(shelf, pair));
            case 8 -> due("round(" + shelf + ", " + what + ")", x.round(shelf, what), o.round(shelf, what));
            default -> {
                int n = 1 + about(5);
                due("byTurns(" + pair + ", " + n + ", " + what + ")", x.byTurns(pair, n, what),
                        o.byTurns(pair, n, what));
            }
        }
    }

    private void seen() {
        int from = about(6), to = about(6), ss = 10 * from + to;
        int r = random.nextInt(5);
        if (r == 0) {
            int seed = random.nextInt(), who = random.nextInt(3) == 0 ? -1 : one();
            int nmd = 10000 * about(31) + 100 * about(61) + about(13);
            due("drawn(" + seed + ", " + nmd + ", " + who + ")", x.drawn(seed, nmd, who), o.drawn(seed, nmd, who));
            return;
        }
        if (r > 1 && from != to && o.refusal(from) == 0) {
            writeSeen(from, to);
        }
        due("judge(" + ss + ")", x.judge(ss), o.judge(ss));
        int what = about(4);
        int number = what == 0 && random.nextInt(9) > 0 ? 0 : about(what == 1 ? 12 : o.s.people.size());
        due("fits(" + ss + ", " + number + ", " + what + ")", x.fits(ss, number, what), o.fits(ss, number, what));
    }

    /** What is seen of a ROW goes on a SHELF, with gaps, and at times with something wrong. */
    private void writeSeen(int from, int to) {
        int n = o.row(from).size() + random.nextInt(4) - 2;
        due("row(" + to + ", 0, " + n + ")", x.row(to, 0, n), o.row(to, 0, n));
        for (int i = 0; i < Math.min(n, 61) && !wrong; i++) {
            int v = random.nextInt(3) == 0 ? 9 : o.coming(from, i, 0);
            if (random.nextInt(30) == 0) {
                v = random.nextInt(12) - 1;
            }
            due("put(" + to + ", " + i + ", " + v + ")", x.put(to, i, v), o.put(to, i, v));
        }
    }

    private void shelfCall() {
        int shelf = about(6), other = about(6), i = about(12), j = about(12);
        switch (random.nextInt(6)) {
            case 0 -> {
                int sort = about(5), n = about(30);
                due("row(" + shelf + ", " + sort + ", " + n + ")", x.row(shelf, sort, n), o.row(shelf, sort, n));
            }
            case 1 -> {
                long v = random.nextBoolean() ? random.nextLong() : random.nextInt(400) - 200;
                due("put(" + shelf + ", " + i + ", " + v + ")", x.put(shelf, i, v), o.put(shelf, i, v));
            }
            case 2 -> due("element(" + shelf + ", " + i + ")", x.element(shelf, i), o.element(shelf, i));
            case 3 -> {
                int n = about(12);
                due("shift(" + shelf + ", " + i + ", " + other + ", " + j + ", " + n + ")",
                        x.shift(shelf, i, other, j, n), o.shift(shelf, i, other, j, n));
            }
            case 4 -> {
                int body = about(o.bodies.size() + 1) - (random.nextInt(3) == 0 ? 1 : 0);
                due("keep(" + shelf + ", " + body + ")", x.keep(shelf, body), o.keep(shelf, body));
            }
            default -> comeFromRow();
        }
    }

    private void comeFromRow() {
        int shelf = about(6), n = about(20);
        due("row(" + shelf + ", 1, " + n + ")", x.row(shelf, 1, n), o.row(shelf, 1, n));
        for (int i = 0; i < Math.min(n, 61) && !wrong; i++) {
            int v = about(i % 3 == 0 ? 1000 : 10);
            due("put(" + shelf + ", " + i + ", " + v + ")", x.put(shelf, i, v), o.put(shelf, i, v));
        }
        int from = about(4), times = 1 + random.nextInt(9);
        int which = random.nextInt(8) == 0 ? about(6) : shelf;
        due("buyers(" + which + ", " + from + ", " + times + ")", x.buyers(which, from, times),
                o.buyers(which, from, times));
    }

    private void latchCall() {
        switch (random.nextInt(3)) {
            case 0 -> {
                int kind = about(8);
                due("body(" + kind + ")", x.body(kind), o.body(kind));
            }
            case 1 -> {
                int body = about(o.bodies.size()), act = about(4);
                int v = random.nextBoolean() ? random.nextInt() : random.nextInt(100);
                due("act(" + body + ", " + act + ", " + v + ")", x.act(body, act, v), o.act(body, act, v));
                int i = about(14);
                due("trace(" + i + ")", x.trace(i), o.trace(i));
            }
            default -> {
                int shelf = about(6), kind = about(8);
                due("taken(" + shelf + ", " + kind + ")", x.taken(shelf, kind), o.taken(shelf, kind));
            }
        }
    }

    private void look() {
        int what = about(6), k = about(5), seven = about(7);
        int number = seven < 4 ? one() : about(2);
        due("count(" + what + ")", x.count(what), o.count(what));
        due("led(" + k + ")", x.led(k), o.led(k));
        due("of(" + number + ", " + seven + ")", x.of(number, seven), o.of(number, seven));
        int two = about(2);
        due("book(" + k + ", " + two + ")", x.book(k, two), o.book(k, two));
    }
}
