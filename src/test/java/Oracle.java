import java.util.ArrayList;
import java.util.Arrays;
import java.util.List;
import java.util.function.IntUnaryOperator;

/**
 * The document once more, written without a look at how ThirdAfter is built: states are copied, debts are
 * a list, a text is cut at its loosest sign. Slow and plain; OracleTest holds ThirdAfter against it.
 */
final class Oracle {
    static final int BAD = -1, NOT = -2, FULL = -3, STATE = -5, VOID = -2000000000;

    /** One coming: who came, who paid him first (8: nobody), how much all, for how much he bought. */
    record Coming(int who, int payer, int paid, int bought, int lacking, List<int[]> flows) { }

    record Debt(int who, int much) { }

    record Change(int number, int what, int before, int after) { }

    static final class State implements Cloneable {
        List<int[]> people = new ArrayList<>(); // PURSE, WANTS, HASTE, DOG, o
        int third = 3, dogs = 1, day = 0, n = 0;
        List<Debt> book = new ArrayList<>();
        String law = null;

        State copy() {
            State s = new State();
            for (int[] p : people) {
                s.people.add(p.clone());
            }
            s.third = third;
            s.dogs = dogs;
            s.day = day;
            s.n = n;
            s.book = new ArrayList<>(book);
            s.law = law;
            return s;
        }

        Coming come(int who) {
            int[] he = people.get(who);
            List<int[]> flows = new ArrayList<>();
            if (he[3] == 1 && dogs == 0) {
                return new Coming(who, 8, 0, 0, 0, flows);
            }
            int pAhead = he[0];
            int payer = 8, paid = 0, lacking = 0;
            // all debts of the THIRD-th coming ahead of his own, and of those still further ahead
            List<Debt> due = new ArrayList<>();
            int keep = third - 1;
            while (book.size() > keep) {
                due.add(book.remove(0));
            }
            for (Debt d : due) {
                if (payer == 8) {
                    payer = d.who;
                }
                if (d.who != who) {
                    int[] debtor = people.get(d.who);
                    int coins = d.much > debtor[0] ? debtor[0] : d.much;
                    debtor[0] -= coins;
                    he[0] += coins;
                    if (he[0] > 999) {
                        he[0] = 999;
                    }
                    paid += coins;
                    lacking += d.much - coins;
                    flows.add(new int[] {d.who, who, coins});
                }
            }
            int bought = law == null ? 5 * he[1] + he[2] - 2 * he[4]
                    : Texts.value(law, c -> switch (c) {
                        case 'w' -> he[1];
                        case 'p' -> pAhead;
                        case 'h' -> he[2];
                        case 'n' -> n;
                        case 'o' -> he[4];
                        default -> day;
                    });
            bought = bought < 0 ? 0 : bought > 99 ? 99 : bought;
            book.add(new Debt(who, bought));
            n++;
            he[4]++;
            return new Coming(who, payer, paid, bought, lacking, flows);
        }

        void evening() {
            if (day < 99) {
                day++;
            }
            n = 0;
            people.forEach(p -> p[4] = 0);
        }

        List<Coming> all(List<Integer> row) {
            List<Coming> l = new ArrayList<>();
            for (int who : row) {
                l.add(come(who));
            }
            return l;
        }
    }

    /** What a TEXT means, and where it fails. */
    static final class Texts {
        static int value(String text, IntUnaryOperator names) {
            for (String line : text.split(";", -1)) {
                int q = line.indexOf('?');
                if (q < 0) {
                    return e(line, names);
                }
                if (e(line.substring(0, q), names) != 0) {
                    return e(line.substring(q + 1), names);
                }
            }
            return 0;
        }

        /** Cuts at the last of the loosest signs that stands outside ( ). */
        private static int e(String s, IntUnaryOperator names) {
            for (String signs : List.of("|", "&", "<=>", "+-", "*/%")) {
                int depth = 0;
                for (int i = s.length() - 1; i > 0; i--) {
                    char c = s.charAt(i);
                    depth += c == ')' ? 1 : c == '(' ? -1 : 0;
                    boolean between = Character.isLetterOrDigit(s.charAt(i - 1)) || s.charAt(i - 1) == ')';
                    if (depth == 0 && between && signs.indexOf(c) >= 0) {
                        return joined(c, e(s.substring(0, i), names), e(s.substring(i + 1), names));
                    }
                }
            }
            char first = s.charAt(0);
            if (first == '!') {
                return e(s.substring(1), names) == 0 ? 1 : 0;
            }
            if (first == '-') {
                return -e(s.substring(1), names);
            }
            if (first == '(') {
                return e(s.substring(1, s.length() - 1), names);
            }
            return Character.isDigit(first) ? Integer.parseInt(s) : names.applyAsInt(first);
        }

        static int joined(char c, int a, int b) {
            return switch (c) {
                case '|' -> (a | b) != 0 ? 1 : 0;
                case '&' -> a == 0 || b == 0 ? 0 : 1;
                case '<' -> a < b ? 1 : 0;
                case '=' -> a == b ? 1 : 0;
                case '>' -> b < a ? 1 : 0;
                case '+' -> a + b;
                case '-' -> a - b;
                case '*' -> a * b;
                case '/' -> b == 0 ? 0 : (int) ((long) a / b);
                default -> b == 0 ? 0 : (int) ((long) a % b);
            };
        }

        /** The FAULT, or -1: a machine that goes over the bytes with what is open on a pile. */
        static int fault(List<Integer> bytes) {
            List<Character> pile = new ArrayList<>(); // ( ! - and, below a (, whether its B was compared: c
            boolean compared = false, asked = false, wanting = true;
            int digits = 0;
            for (int i = 0; i < bytes.size(); i++) {
                char c = (char) (int) bytes.get(i);
                if (wanting) {
                    long opened = pile.stream().filter(o -> o != 'c').count();
                    if ("(!-".indexOf(c) >= 0 && opened < 6) {
                        if (c == '(') {
                            if (compared) {
                                pile.add('c');
                            }
                            compared = false;
                        }
                        pile.add(c);
                        continue;
                    }
                    if ("wphnod".indexOf(c) < 0 && (c < '0' || c > '9')) {
                        return i;
                    }
                    digits = c >= '0' && c <= '9' ? 1 : 4;
                    wanting = false;
                    dropSigns(pile);
                    continue;
                }
                if (c >= '0' && c <= '9') {
                    if (digits >= 4) {
                        return i;
                    }
                    digits++;
                    continue;
                }
                digits = 4;
                boolean inside = !pile.isEmpty();
                if (c == ')' && inside) {
                    pile.remove(pile.size() - 1);
                    compared = !pile.isEmpty() && pile.get(pile.size() - 1) == 'c';
                    if (compared) {
                        pile.remove(pile.size() - 1);
                    }
                    dropSigns(pile);
                    continue;
                }
                if ("<=>".indexOf(c) >= 0 && !compared) {
                    compared = true;
                } else if (c == '|' || c == '&') {
                    compared = false;
                } else if (c == '?' && !inside && !asked) {
                    asked = true;
                    compared = false;
                } else if (c == ';' && !inside) {
                    asked = false;
                    compared = false;
                } else if ("+-*/%".indexOf(c) < 0) {
                    return i;
                }
                wanting = true;
            }
            return wanting || !pile.isEmpty() ? bytes.size() : -1;
        }

        private static void dropSigns(List<Character> pile) {
            while (!pile.isEmpty() && (pile.get(pile.size() - 1) == '!' || pile.get(pile.size() - 1) == '-')) {
                pile.remove(pile.size() - 1);
            }
        }
    }

    State s = new State();
    List<Integer> tape = new ArrayList<>();
    int[] led = new int[5];
    State imageState = null;
    int[] imageLed = null;
    List<Change> past = new ArrayList<>(), future = new ArrayList<>();
    List<Integer> bodies = new ArrayList<>(), traced = new ArrayList<>();
    Object[] shelves = new Object[6]; // null, an Integer (a LATCH), or a Row

    static final class Row {
        int sort;
        long[] v;
    }

    boolean there(int one) {
        return one >= 0 && one < s.people.size();
    }

    int buyer(int wants, int haste) {
        if (wants < 0 || wants > 9 || haste < 0 || haste > 9) {
            return BAD;
        }
        if (s.people.size() == 8) {
            return FULL;
        }
        s.people.add(new int[] {100, wants, haste, 0, 0});
        return s.people.size() - 1;
    }

    int buyers(int shelf, int i, int n) {
        if (shelf < 0 || shelf > 5 || n < 1 || n > 8) {
            return BAD;
        }
        if (shelves[shelf] == null) {
            return 0;
        }
        if (!(shelves[shelf] instanceof Row r) || r.sort != 1) {
            return -12;
        }
        int came = 0;
        long at = i;
        while (came < n && at >= 0 && at + 2 < r.v.length && s.people.size() < 8) {
            long p = r.v[(int) at], w = r.v[(int) at + 1], h = r.v[(int) at + 2];
            if (p < 0 || p > 999 || w < 0 || w > 9 || h < 0 || h > 9) {
                break;
            }
            s.people.add(new int[] {(int) p, (int) w, (int) h, 0, 0});
            came++;
            at += 3;
        }
        return came;
    }

    void set(int number, int what, int v) {
        switch (what) {
            case 4 -> s.third = v;
            case 5 -> s.dogs = v;
            case 6 -> s.day = v;
            default -> s.people.get(number)[what] = v;
        }
    }

    int of(int number, int what) {
        if (what >= 0 && what <= 3 && there(number)) {
            return s.people.get(number)[what];
        }
        if (number != 0) {
            return BAD;
        }
        return what == 4 ? s.third : what == 5 ? s.dogs : what == 6 ? s.day : BAD;
    }

    int mend(int number, int what, int v) {
        int was = of(number, what);
        if (was == BAD) {
            return BAD;
        }
        int least = what == 4 ? 1 : 0;
        int most = new int[] {999, 9, 9, 1, 5, 1, 99}[what];
        if (v < least || v > most) {
            return BAD;
        }
        if (v != was) {
            set(number, what, v);
            past.add(new Change(number, what, was, v));
            if (past.size() > 40) {
                past.remove(0);
            }
            future.clear();
        }
        return was;
    }

    int feed(int letter) {
        if (letter < 0 || letter > 255) {
            return BAD;
        }
        if (tape.size() == 120) {
            return FULL;
        }
        tape.add(letter);
        return tape.size();
    }

    int law() {
        int fault = Texts.fault(tape);
        StringBuilder b = new StringBuilder();
        tape.forEach(c -> b.append((char) (int) c));
        tape.clear();
        if (fault >= 0) {
            return -100 - fault;
        }
        s.law = b.toString();
        return 1;
    }

    int book(int k, int what) {
        if (k < 0 || what < 0 || what > 1) {
            return BAD;
        }
        if (k >= s.book.size()) {
            return NOT;
        }
        return what == 0 ? s.book.get(k).who : s.book.get(k).much;
    }

    int refusal(int shelf) {
        if (shelf < 0 || shelf > 5) {
            return BAD;
        }
        if (shelves[shelf] == null) {
            return -11;
        }
        return shelves[shelf] instanceof Row r && r.sort == 0 ? 0 : -12;
    }

    List<Integer> row(int shelf) {
        List<Integer> l = new ArrayList<>();
        for (long v : ((Row) shelves[shelf]).v) {
            if (l.size() == 20 || !there((int) v)) {
                break;
            }
            l.add((int) v);
        }
        return l;
    }

    int purseAfter(List<Integer> row, int one) {
        State t = s.copy();
        t.all(row);
        return t.people.get(one)[0];
    }

    int market(int shelf, int one, int what) {
        if (what < 0 || what > 3 || what < 3 && one != 0 || what == 3 && !there(one)) {
            return BAD;
        }
        if (refusal(shelf) != 0) {
            return refusal(shelf);
        }
        State t = s.copy();
        List<Coming> l = t.all(row(shelf));
        return switch (what) {
            case 0 -> l.size();
            case 1 -> l.stream().mapToInt(Coming::lacking).sum();
            case 2 -> t.book.size();
            default -> t.people.get(one)[0];
        };
    }

    int coming(int shelf, int k, int what) {
        if (what < 0 || what > 2 || k < 0) {
            return BAD;
        }
        if (refusal(shelf) != 0) {
            return refusal(shelf);
        }
        List<Coming> l = s.copy().all(row(shelf));
        if (k >= l.size()) {
            return NOT;
        }
        Coming c = l.get(k);
        return what == 0 ? c.payer : what == 1 ? c.paid : c.bought;
    }

    int later(int shelf, int n, int one) {
        if (n < 0 || n > 20 || one < -1 || one >= s.people.size()) {
            return BAD;
        }
        if (refusal(shelf) != 0) {
            return refusal(shelf);
        }
        State t = s.copy();
        int lacking = 0;
        for (int day = 1; day <= n; day++) {
            lacking += t.all(row(shelf)).stream().mapToInt(Coming::lacking).sum();
            if (day != n) {
                t.evening();
            }
        }
        return one == -1 ? lacking : t.people.get(one)[0];
    }

    int onceMore(int shelf, int one, int what) {
        if (!there(one) || what < 0 || what > 1) {
            return BAD;
        }
        if (refusal(shelf) != 0) {
            return refusal(shelf);
        }
        List<Integer> row = row(shelf);
        if (row.size() > 19) {
            return STATE;
        }
        int[] best = {0, -1};
        for (int place = 0; place <= row.size(); place++) {
            List<Integer> longer = new ArrayList<>(row);
            longer.add(place, one);
            better(best, place, purseAfter(longer, one));
        }
        return best[what];
    }

    private static void better(int[] best, int which, int that) {
        if (that > best[1]) {
            best[0] = which;
            best[1] = that;
        }
    }

    int hired(int shelf, int place, int one, int what) {
        if (!there(one) || what < 0 || what > 1 || place < 0) {
            return BAD;
        }
        if (refusal(shelf) != 0) {
            return refusal(shelf);
        }
        List<Integer> row = row(shelf);
        if (place > row.size()) {
            return BAD;
        }
        if (row.size() > 19) {
            return STATE;
        }
        int[] best = {0, -1};
        for (int who = 0; who < s.people.size(); who++) {
            List<Integer> longer = new ArrayList<>(row);
            longer.add(place, who);
            better(best, who, purseAfter(longer, one));
        }
        return best[what];
    }

    int latch(int shelf, int one, int what) {
        if (!there(one) || what < 0 || what > 1) {
            return BAD;
        }
        if (refusal(shelf) != 0) {
            return refusal(shelf);
        }
        List<Integer> row = row(shelf);
        int[] best = {NOT, purseAfter(row, one)};
        for (int place = 0; place < row.size() - 1; place++) {
            List<Integer> changed = new ArrayList<>(row);
            changed.add(place, changed.remove(place + 1));
            better(best, place, purseAfter(changed, one));
        }
        return best[what];
    }

    int order(int set, int one, int k) {
        if (set < 0 || set >= 1 << s.people.size() || !there(one) || k < -1) {
            return BAD;
        }
        List<Integer> told = new ArrayList<>();
        for (int b = 0; b < 8; b++) {
            if ((set & 1 << b) != 0) {
                told.add(b);
            }
        }
        if (k >= told.size()) {
            return NOT;
        }
        if (told.size() > 5) {
            return STATE;
        }
        List<List<Integer>> orders = new ArrayList<>();
        permute(told, new ArrayList<>(), orders);
        int most = -1;
        List<Integer> best = null;
        for (List<Integer> o : orders) {
            int that = purseAfter(o, one);
            if (that > most) {
                most = that;
                best = o;
            }
        }
        return k == -1 ? most : best.get(k);
    }

    private static void permute(List<Integer> left, List<Integer> taken, List<List<Integer>> out) {
        if (left.isEmpty()) {
            out.add(new ArrayList<>(taken));
        }
        for (Integer who : left) {
            List<Integer> rest = new ArrayList<>(left);
            rest.remove(who);
            taken.add(who);
            permute(rest, taken, out);
            taken.remove(taken.size() - 1);
        }
    }

    boolean pair(int ab) {
        return ab >= 0 && ab < 100 && there(ab / 10) && there(ab % 10) && ab % 11 != 0;
    }

    int flow(int shelf, int ab) {
        if (!pair(ab)) {
            return BAD;
        }
        if (refusal(shelf) != 0) {
            return refusal(shelf);
        }
        return flowOf(s.copy().all(row(shelf)), ab / 10, ab % 10);
    }

    private static int flowOf(List<Coming> l, int a, int b) {
        int sum = 0;
        for (Coming c : l) {
            for (int[] f : c.flows) {
                sum += f[0] == a && f[1] == b ? f[2] : 0;
            }
        }
        return sum;
    }

    int round(int shelf, int what) {
        if (what < 0 || what > 1) {
            return BAD;
        }
        if (refusal(shelf) != 0) {
            return refusal(shelf);
        }
        int n = s.people.size();
        State t = s.copy();
        List<Coming> l = t.all(row(shelf));
        if (what == 1) {
            int best = NOT, gain = Integer.MIN_VALUE;
            for (int i = 0; i < n; i++) {
                int g = t.people.get(i)[0] - s.people.get(i)[0];
                if (g > gain) {
                    gain = g;
                    best = i;
                }
            }
            return best;
        }
        // whom can be reached from each in just k steps: bits
        int[] pays = new int[n], reach = new int[n];
        for (int a = 0; a < n; a++) {
            for (int b = 0; b < n; b++) {
                if (a != b && flowOf(l, a, b) > 0) {
                    pays[a] |= 1 << b;
                }
            }
            reach[a] = pays[a];
        }
        for (int k = 1; k <= n; k++) {
            for (int a = 0; a < n; a++) {
                if ((reach[a] & 1 << a) != 0) {
                    return k;
                }
            }
            for (int a = 0; a < n; a++) {
                int next = 0;
                for (int b = 0; b < n; b++) {
                    next |= (reach[a] & 1 << b) != 0 ? pays[b] : 0;
                }
                reach[a] = next;
            }
        }
        return NOT;
    }

    int refusal2(int ss) {
        if (ss < 0 || ss / 10 > 5 || ss % 10 > 5) {
            return BAD;
        }
        return refusal(ss / 10) != 0 ? refusal(ss / 10) : refusal(ss % 10);
    }

    static int firstUnlike(List<Coming> l, Row seen) {
        for (int k = 0; k < seen.v.length; k++) {
            if (k >= l.size()) {
                return k;
            }
            if (seen.v[k] != 9 && seen.v[k] != l.get(k).payer) {
                return k;
            }
        }
        return NOT;
    }

    int judge(int ss) {
        if (refusal2(ss) != 0) {
            return refusal2(ss);
        }
        return firstUnlike(s.copy().all(row(ss / 10)), (Row) shelves[ss % 10]);
    }

    int fits(int ss, int number, int what) {
        if (refusal2(ss) == BAD || what < 0 || what > 3 || number < 0 || what == 0 && number > 0
                || what > 1 && !there(number)) {
            return BAD;
        }
        if (refusal(ss / 10) != 0) {
            return refusal(ss / 10);
        }
        List<Integer> row = row(ss / 10);
        if (what == 1 && number >= row.size()) {
            return BAD;
        }
        if (refusal(ss % 10) != 0) {
            return refusal(ss % 10);
        }
        Row seen = (Row) shelves[ss % 10];
        List<Integer> fit = new ArrayList<>();
        int[] ends = {6, s.people.size(), 10, 10};
        for (int v = what == 0 ? 1 : 0; v < ends[what]; v++) {
            State t = s.copy();
            List<Integer> r = new ArrayList<>(row);
            if (what == 0) {
                t.third = v;
            } else if (what == 1) {
                r.set(number, v);
            } else {
                t.people.get(number)[1] = v;
            }
            if (firstUnlike(t.all(r), seen) == NOT) {
                fit.add(v);
            }
        }
        if (what < 2) {
            return fit.stream().mapToInt(v -> 1 << v).sum();
        }
        return what == 2 ? fit.size() : fit.isEmpty() ? NOT : fit.get(0);
    }

    int byTurns(int ab, int n, int what) {
        if (!pair(ab) || n < 1 || n > 5 || what < 0 || what > 1) {
            return VOID;
        }
        int stay = play(s.copy(), ab / 10, ab % 10, n, 1);
        State in = s.copy();
        in.come(ab / 10);
        int come = play(in, ab / 10, ab % 10, n, 1);
        return what == 0 ? Math.max(stay, come) : come > stay ? 1 : 0;
    }

    private static int play(State t, int one, int other, int n, int turn) {
        if (turn == n) {
            return t.people.get(one)[0] - t.people.get(other)[0];
        }
        State in = t.copy();
        in.come(turn % 2 == 0 ? one : other);
        int a = play(t.copy(), one, other, n, turn + 1);
        int b = play(in, one, other, n, turn + 1);
        return turn % 2 == 0 ? Math.max(a, b) : Math.min(a, b);
    }

    int drawn(int seed, int nmd, int one) {
        if (nmd < 0 || one < -1 || one >= s.people.size()) {
            return BAD;
        }
        int n = nmd / 10000, m = nmd % 10000 / 100, dusk = nmd % 100;
        if (n < 1 || n > 30 || m < 1 || m > 60 || dusk > 12) {
            return BAD;
        }
        int z = seed, sum = 0;
        while (n-- > 0) {
            State t = s.copy();
            for (int i = 0; i < m; i++) {
                z = z * 1103515245 + 12345;
                if (Integer.remainderUnsigned(z >>> 16, 12) < dusk) {
                    t.evening();
                }
                if (!t.people.isEmpty()) {
                    int lacking = t.come((z >>> 8) % t.people.size()).lacking;
                    sum += one == -1 ? lacking : 0;
                }
            }
            sum += one == -1 ? 0 : t.people.get(one)[0];
        }
        return sum;
    }

    int comes(int one) {
        if (!there(one)) {
            return BAD;
        }
        boolean counts = s.dogs == 1 || s.people.get(one)[3] == 0;
        Coming c = s.come(one);
        led[0] += counts ? 1 : 0;
        led[1] += c.paid;
        led[2] += c.lacking;
        return c.paid;
    }

    int evening() {
        s.evening();
        led[3]++;
        return s.day;
    }

    int gives(int one, int other, int v) {
        if (!there(one) || !there(other) || one == other || v < 1 || v > 999) {
            return BAD;
        }
        int[] a = s.people.get(one), b = s.people.get(other);
        if (a[0] < v) {
            return STATE;
        }
        a[0] -= v;
        b[0] = Math.min(999, b[0] + v);
        led[4] += v;
        return a[0];
    }

    int led(int what) {
        return what < 0 || what > 4 ? BAD : led[what];
    }

    int image() {
        imageState = s.copy();
        imageLed = led.clone();
        return led[0];
    }

    int back() {
        if (imageState == null) {
            return STATE;
        }
        for (int i = 0; i < imageState.people.size(); i++) {
            s.people.get(i)[0] = imageState.people.get(i)[0];
            s.people.get(i)[4] = imageState.people.get(i)[4];
        }
        s.day = imageState.day;
        s.n = imageState.n;
        s.book = new ArrayList<>(imageState.book);
        led = imageLed.clone();
        return led[0];
    }

    int undo() {
        if (past.isEmpty()) {
            return STATE;
        }
        Change c = past.remove(past.size() - 1);
        set(c.number, c.what, c.before);
        future.add(c);
        return past.size();
    }

    int redo() {
        if (future.isEmpty()) {
            return STATE;
        }
        Change c = future.remove(future.size() - 1);
        set(c.number, c.what, c.after);
        past.add(c);
        return future.size();
    }

    int body(int kind) {
        if (kind < 0 || kind > 7) {
            return BAD;
        }
        if (bodies.size() == 50) {
            return FULL;
        }
        bodies.add(kind);
        return bodies.size() - 1;
    }

    /** The KINDS as the Java classes that the document tells of. */
    private Latch made(int body) {
        return switch (bodies.get(body)) {
            case 0 -> new Latch(body, traced);
            case 1 -> new Baker(body, traced);
            case 2 -> new Priest(body, traced);
            case 3 -> new Cow(body, traced);
            case 4 -> new Rent(body, traced);
            case 5 -> new Dusk(body, traced);
            case 6 -> new Hound(body, traced);
            default -> new Purse(body, traced);
        };
    }

    interface Comes {
        int n();

        List<Integer> trace();

        default int comes(int x) {
            trace().add(1);
            return x + n();
        }
    }

    interface Tells {
        List<Integer> trace();

        int owes(int x);

        int pays(int x);

        default int tells(int x) {
            trace().add(2);
            return owes(x) - pays(1);
        }
    }

    static class Latch implements Comes, Tells {
        final int n;
        final List<Integer> trace;

        Latch(int n, List<Integer> trace) {
            this.n = n;
            this.trace = trace;
        }

        @Override public int n() {
            return n;
        }

        @Override public List<Integer> trace() {
            return trace;
        }

        @Override public int owes(int x) {
            trace.add(10);
            return comes(x) * 2;
        }

        @Override public int pays(int x) {
            trace.add(11);
            return x ^ n;
        }
    }

    static class Baker extends Latch {
        Baker(int n, List<Integer> trace) {
            super(n, trace);
        }

        @Override public int comes(int x) {
            trace.add(20);
            return super.comes(x) + 3;
        }
    }

    static class Priest extends Latch {
        Priest(int n, List<Integer> trace) {
            super(n, trace);
        }

        @Override public int owes(int x) {
            trace.add(30);
            return -super.owes(x);
        }
    }

    static class Cow extends Priest {
        Cow(int n, List<Integer> trace) {
            super(n, trace);
        }

        @Override public int pays(int x) {
            trace.add(40);
            return super.pays(x) * 3;
        }

        @Override public int owes(int x) {
            trace.add(41);
            return super.owes(x + 1);
        }
    }

    static class Rent extends Baker {
        Rent(int n, List<Integer> trace) {
            super(n, trace);
        }

        @Override public int pays(int x) {
            trace.add(50);
            return super.pays(x) - comes(2);
        }
    }

    static class Dusk extends Cow {
        Dusk(int n, List<Integer> trace) {
            super(n, trace);
        }

        @Override public int tells(int x) {
            trace.add(60);
            return super.tells(x) ^ 5;
        }
    }

    static class Hound extends Latch {
        Hound(int n, List<Integer> trace) {
            super(n, trace);
        }

        @Override public int comes(int x) {
            trace.add(70);
            return super.comes(x) * 2;
        }
    }

    static class Purse extends Rent {
        Purse(int n, List<Integer> trace) {
            super(n, trace);
        }

        @Override public int owes(int x) {
            trace.add(80);
            return super.owes(x) + pays(2);
        }

        @Override public int tells(int x) {
            trace.add(81);
            return super.tells(x) - 1;
        }
    }

    int act(int body, int act, int x) {
        traced.clear();
        if (body < 0 || body >= bodies.size() || act < 0 || act > 3) {
            return 0;
        }
        Latch l = made(body);
        return switch (act) {
            case 0 -> l.comes(x);
            case 1 -> l.owes(x);
            case 2 -> l.pays(x);
            default -> l.tells(x);
        };
    }

    int trace(int i) {
        return i < 0 || i >= traced.size() || i >= 24 ? BAD : traced.get(i);
    }

    int keep(int shelf, int body) {
        if (shelf < 0 || shelf > 5 || body < -1 || body >= bodies.size()) {
            return BAD;
        }
        shelves[shelf] = body == -1 ? null : (Object) body;
        return 1;
    }

    int row(int shelf, int sort, int n) {
        if (shelf < 0 || shelf > 5 || sort < 0 || sort > 4 || n > 60) {
            return BAD;
        }
        if (n < 0) {
            return -14;
        }
        Row r = new Row();
        r.sort = sort;
        r.v = new long[n];
        shelves[shelf] = r;
        return 1;
    }

    int refusalOfCell(int shelf, int i) {
        if (shelf < 0 || shelf > 5) {
            return BAD;
        }
        if (shelves[shelf] == null) {
            return -11;
        }
        if (!(shelves[shelf] instanceof Row r)) {
            return -12;
        }
        return i < 0 || i >= r.v.length ? -13 : 0;
    }

    int put(int shelf, int i, long v) {
        if (refusalOfCell(shelf, i) != 0) {
            return refusalOfCell(shelf, i);
        }
        Row r = (Row) shelves[shelf];
        r.v[i] = switch (r.sort) {
            case 0 -> (byte) v;
            case 1 -> (short) v;
            case 2 -> (int) v;
            case 3 -> v;
            default -> v == 0 ? 0 : 1;
        };
        return 1;
    }

    long element(int shelf, int i) {
        return refusalOfCell(shelf, i) != 0 ? Long.MIN_VALUE : ((Row) shelves[shelf]).v[i];
    }

    int shift(int shelf, int i, int other, int j, int n) {
        if (shelf < 0 || shelf > 5 || other < 0 || other > 5) {
            return BAD;
        }
        if (shelves[shelf] == null || shelves[other] == null) {
            return -11;
        }
        if (!(shelves[shelf] instanceof Row a) || !(shelves[other] instanceof Row b) || a.sort != b.sort) {
            return -12;
        }
        if (i < 0 || j < 0 || n < 0 || (long) i + n > a.v.length || (long) j + n > b.v.length) {
            return -13;
        }
        long[] was = Arrays.copyOf(a.v, a.v.length);
        for (int k = 0; k < n; k++) {
            b.v[j + k] = was[i + k];
        }
        return n;
    }

    int taken(int shelf, int k) {
        if (shelf < 0 || shelf > 5 || k < 0 || k > 7) {
            return BAD;
        }
        if (shelves[shelf] == null) {
            return -11;
        }
        List<Class<? extends Latch>> kinds = List.of(Latch.class, Baker.class, Priest.class, Cow.class,
                Rent.class, Dusk.class, Hound.class, Purse.class);
        if (!(shelves[shelf] instanceof Integer body) || !kinds.get(k).isInstance(made(body))) {
            return -12;
        }
        return bodies.get(body);
    }

    int count(int what) {
        return switch (what) {
            case 0 -> s.people.size();
            case 1 -> s.book.size();
            case 2 -> tape.size();
            case 3 -> past.size();
            case 4 -> bodies.size();
            case 5 -> traced.size();
            default -> BAD;
        };
    }
}
