/**
 * A market in which nobody pays whom he has it from, but him who comes in next but two.
 * The document (../shared/DOC.md) says what each call answers; README.md says how to use it.
 */
public final class ThirdAfter {
    public static final int BAD = -1, NOT = -2, FULL = -3, STATE = -5, VOID = -2000000000;

    private static final int MISSING = -11, OTHER_KIND = -12, NO_PLACE = -13, SIZE_BELOW_NONE = -14;
    private static final long NO_ELEMENT = -9223372036854775808L;
    private static final int MOST_BUYERS = 8, NOBODY = 8, NOT_SEEN = 9;
    private static final int MOST_PURSE = 999, MOST_DAY = 99, MOST_BOUGHT = 99;
    private static final int MOST_THIRD = 5, MOST_COMINGS = 20, MOST_DAYS = 20, MOST_ORDERED = 5, MOST_TURNS = 5;
    private static final int MOST_TAPE = 120;
    private static final int SHELVES = 6, MOST_CELLS = 60, SORTS = 5, BYTES = 0, SHORTS = 1;

    /** The numbers of mend(), and what each of them may be. */
    private static final int PURSE = 0, WANTS = 1, HASTE = 2, DOG = 3, THIRD = 4, DOGS = 5, DAY = 6;
    private static final int[] LEAST_NUMBER = {0, 0, 0, 0, 1, 0, 0};
    private static final int[] MOST_NUMBER = {MOST_PURSE, 9, 9, 1, MOST_THIRD, 1, MOST_DAY};

    /** The numbers of led(). */
    private static final int COMINGS = 0, PAID = 1, LACKING = 2, EVENINGS = 3, GIVEN = 4;

    private final Market now = new Market();
    private final Market image = new Market();
    private boolean imaged = false;
    private final Thought thought = new Thought();
    private final Changes changes = new Changes();
    private final Latches latches = new Latches();
    private final Shelf[] shelves = new Shelf[SHELVES];
    private final Tape tape = new Tape();

    public ThirdAfter() {
        for (int i = 0; i < SHELVES; i++) {
            shelves[i] = new Shelf();
        }
    }

    // ---- buyers

    public int buyer(int wants, int haste) {
        if (!isNumber(WANTS, wants) || !isNumber(HASTE, haste)) {
            return BAD;
        }
        return now.count >= MOST_BUYERS ? FULL : now.add(100, wants, haste);
    }

    public int buyers(int shelf, int i, int n) {
        if (!isShelf(shelf) || !within(n, 1, MOST_BUYERS)) {
            return BAD;
        }
        Shelf row = shelves[shelf];
        if (row.holds == Shelf.NOTHING) {
            return 0;
        }
        if (!row.isRowOf(SHORTS)) {
            return OTHER_KIND;
        }
        // looked at first, so that the places below cannot wrap
        if (!within(i, 0, MOST_CELLS)) {
            return 0;
        }
        int came = 0;
        for (int k = 0; k < n && addFromThree(row, i + 3 * k); k++) {
            came++;
        }
        return came;
    }

    private boolean addFromThree(Shelf row, int at) {
        if (now.count >= MOST_BUYERS || at < 0 || at + 2 >= row.length) {
            return false;
        }
        int purse = (int) row.cells[at];
        int wants = (int) row.cells[at + 1];
        int haste = (int) row.cells[at + 2];
        if (!isNumber(PURSE, purse) || !isNumber(WANTS, wants) || !isNumber(HASTE, haste)) {
            return false;
        }
        now.add(purse, wants, haste);
        return true;
    }

    public int mend(int number, int what, int v) {
        if (!isTold(number, what) || !isNumber(what, v)) {
            return BAD;
        }
        int was = now.number(number, what);
        if (was != v) {
            now.setNumber(number, what, v);
            changes.add(number, what, was, v);
        }
        return was;
    }

    public int of(int number, int what) {
        return isTold(number, what) ? now.number(number, what) : BAD;
    }

    public int feed(int letter) {
        if (!within(letter, 0, 255)) {
            return BAD;
        }
        return tape.length >= MOST_TAPE ? FULL : tape.add(letter);
    }

    public int law() {
        int fault = tape.read();
        tape.length = 0;
        if (fault >= 0) {
            return -100 - fault;
        }
        now.law = tape.exchange(now.law);
        return 1;
    }

    public int book(int k, int what) {
        if (k < 0 || !within(what, 0, 1)) {
            return BAD;
        }
        if (k >= now.book.open) {
            return NOT;
        }
        return what == 0 ? now.book.who[k] : now.book.much[k];
    }

    // ---- rows in thought

    public int market(int shelf, int one, int what) {
        if (!within(what, 0, 3) || (what == 3 ? !isBuyer(one) : one != 0)) {
            return BAD;
        }
        int refusal = plan(shelf);
        if (refusal < 0) {
            return refusal;
        }
        thought.runFrom(now);
        switch (what) {
            case 0:
                return thought.length;
            case 1:
                return thought.market.led[LACKING];
            case 2:
                return thought.market.book.open;
            default:
                return thought.market.number(one, PURSE);
        }
    }

    public int coming(int shelf, int k, int what) {
        if (k < 0 || !within(what, 0, 2)) {
            return BAD;
        }
        int refusal = plan(shelf);
        if (refusal < 0) {
            return refusal;
        }
        if (k >= thought.length) {
            return NOT;
        }
        thought.runFrom(now);
        if (what == 0) {
            return thought.payers[k];
        }
        return what == 1 ? thought.paid[k] : thought.bought[k];
    }

    public int later(int shelf, int n, int one) {
        if (!within(n, 0, MOST_DAYS) || one != -1 && !isBuyer(one)) {
            return BAD;
        }
        int refusal = plan(shelf);
        if (refusal < 0) {
            return refusal;
        }
        thought.runDays(now, n);
        return thought.purseOrLacking(one);
    }

    public int onceMore(int shelf, int one, int what) {
        if (!isBuyer(one) || !within(what, 0, 1)) {
            return BAD;
        }
        int refusal = plan(shelf);
        if (refusal < 0) {
            return refusal;
        }
        if (thought.length >= MOST_COMINGS) {
            return STATE;
        }
        int which = thought.bestPlace(now, one);
        return what == 0 ? which : thought.most;
    }

    public int hired(int shelf, int place, int one, int what) {
        if (place < 0 || !isBuyer(one) || !within(what, 0, 1)) {
            return BAD;
        }
        int refusal = plan(shelf);
        if (refusal < 0) {
            return refusal;
        }
        if (place > thought.length) {
            return BAD;
        }
        if (thought.length >= MOST_COMINGS) {
            return STATE;
        }
        int which = thought.bestHired(now, place, one);
        return what == 0 ? which : thought.most;
    }

    public int latch(int shelf, int one, int what) {
        if (!isBuyer(one) || !within(what, 0, 1)) {
            return BAD;
        }
        int refusal = plan(shelf);
        if (refusal < 0) {
            return refusal;
        }
        int which = thought.bestChanged(now, one);
        return what == 0 ? which : thought.most;
    }

    public int order(int set, int one, int k) {
        if (set < 0 || set >= 1 << now.count || !isBuyer(one) || k < -1) {
            return BAD;
        }
        int told = Integer.bitCount(set);
        if (k >= told) {
            return NOT;
        }
        if (told > MOST_ORDERED) {
            return STATE;
        }
        thought.findBestOrder(now, set, one);
        return k < 0 ? thought.most : thought.ordered[k];
    }

    public int flow(int shelf, int ab) {
        if (!isPair(ab)) {
            return BAD;
        }
        int refusal = plan(shelf);
        if (refusal < 0) {
            return refusal;
        }
        thought.runFrom(now);
        return thought.market.flow[ab / 10][ab % 10];
    }

    public int round(int shelf, int what) {
        if (!within(what, 0, 1)) {
            return BAD;
        }
        int refusal = plan(shelf);
        if (refusal < 0) {
            return refusal;
        }
        thought.runFrom(now);
        return what == 0 ? thought.smallestRing() : thought.whoGainsMost(now);
    }

    // ---- what was seen

    public int judge(int ss) {
        if (!areShelves(ss)) {
            return BAD;
        }
        int refusal = plan(ss / 10);
        if (refusal == 0) {
            refusal = refusalOfBytes(ss % 10);
        }
        if (refusal < 0) {
            return refusal;
        }
        thought.runFrom(now);
        return thought.firstUnlike(shelves[ss % 10]);
    }

    public int fits(int ss, int number, int what) {
        if (!areShelves(ss) || !within(what, 0, 3) || number < 0) {
            return BAD;
        }
        if (what == 0 && number != 0 || what >= 2 && !isBuyer(number)) {
            return BAD;
        }
        int refusal = plan(ss / 10);
        if (refusal < 0) {
            return refusal;
        }
        if (what == 1 && number >= thought.length) {
            return BAD;
        }
        refusal = refusalOfBytes(ss % 10);
        if (refusal < 0) {
            return refusal;
        }
        Shelf seen = shelves[ss % 10];
        switch (what) {
            case 0:
                return thought.thirdsThatFit(now, seen);
            case 1:
                return thought.buyersThatFit(now, seen, number);
            case 2:
                return Integer.bitCount(thought.wantsThatFit(now, seen, number));
            default:
                return leastBit(thought.wantsThatFit(now, seen, number));
        }
    }

    private static int leastBit(int bits) {
        for (int i = 0; i < 32; i++) {
            if ((bits >> i & 1) == 1) {
                return i;
            }
        }
        return NOT;
    }

    public int byTurns(int ab, int n, int what) {
        if (!isPair(ab) || !within(n, 1, MOST_TURNS) || !within(what, 0, 1)) {
            return VOID;
        }
        thought.playTurns(now, ab / 10, ab % 10, n);
        int out = thought.outcomes[0];
        int in = thought.outcomes[1];
        if (what == 1) {
            return in > out ? 1 : 0;
        }
        return Math.max(in, out);
    }

    public int drawn(int seed, int nmd, int one) {
        int markets = nmd / 10000;
        int comings = nmd / 100 % 100;
        int dusk = nmd % 100;
        if (nmd < 0 || !within(markets, 1, 30) || !within(comings, 1, 60) || !within(dusk, 0, 12)) {
            return BAD;
        }
        if (one != -1 && !isBuyer(one)) {
            return BAD;
        }
        int sum = 0;
        int z = seed;
        for (int i = 0; i < markets; i++) {
            z = thought.draw(now, z, comings, dusk);
            sum += thought.purseOrLacking(one);
        }
        return sum;
    }

    // ---- in deed

    public int comes(int one) {
        return isBuyer(one) ? now.comesIn(one) : BAD;
    }

    public int evening() {
        now.dusk();
        return now.day;
    }

    public int gives(int one, int other, int v) {
        if (!isBuyer(one) || !isBuyer(other) || one == other || !within(v, 1, MOST_PURSE)) {
            return BAD;
        }
        if (now.purse[one] < v) {
            return STATE;
        }
        now.purse[one] -= v;
        now.purse[other] = Math.min(MOST_PURSE, now.purse[other] + v);
        now.led[GIVEN] += v;
        return now.purse[one];
    }

    public int led(int what) {
        return within(what, COMINGS, GIVEN) ? now.led[what] : BAD;
    }

    public int image() {
        image.count = now.count;
        image.takeDeeds(now, now.count);
        imaged = true;
        return now.led[COMINGS];
    }

    public int back() {
        if (!imaged) {
            return STATE;
        }
        now.takeDeeds(image, image.count);
        return now.led[COMINGS];
    }

    public int undo() {
        if (changes.done <= 0) {
            return STATE;
        }
        changes.done--;
        int latest = changes.done;
        now.setNumber(changes.number[latest], changes.what[latest], changes.before[latest]);
        return changes.done;
    }

    public int redo() {
        if (changes.done >= changes.kept) {
            return STATE;
        }
        int next = changes.done;
        now.setNumber(changes.number[next], changes.what[next], changes.after[next]);
        changes.done++;
        return changes.kept - changes.done;
    }

    // ---- acts, shelves

    public int body(int kind) {
        if (!within(kind, 0, Latches.KINDS - 1)) {
            return BAD;
        }
        return latches.count >= Latches.MOST ? FULL : latches.add(kind);
    }

    public int act(int body, int act, int x) {
        return latches.perform(body, act, x);
    }

    public int trace(int i) {
        return within(i, 0, Math.min(latches.ran, Latches.MOST_TRACE) - 1) ? latches.trace[i] : BAD;
    }

    public int keep(int shelf, int body) {
        if (!isShelf(shelf) || body != -1 && !latches.isThere(body)) {
            return BAD;
        }
        shelves[shelf].holdLatch(body);
        return 1;
    }

    public int row(int shelf, int sort, int n) {
        if (!isShelf(shelf) || !within(sort, 0, SORTS - 1) || n > MOST_CELLS) {
            return BAD;
        }
        if (n < 0) {
            return SIZE_BELOW_NONE;
        }
        shelves[shelf].holdRow(sort, n);
        return 1;
    }

    public int put(int shelf, int i, long v) {
        int refusal = refusalOfCell(shelf, i);
        if (refusal < 0) {
            return refusal;
        }
        shelves[shelf].cells[i] = shelves[shelf].narrowed(v);
        return 1;
    }

    public long element(int shelf, int i) {
        return refusalOfCell(shelf, i) < 0 ? NO_ELEMENT : shelves[shelf].cells[i];
    }

    public int shift(int shelf, int i, int other, int j, int n) {
        if (!isShelf(shelf) || !isShelf(other)) {
            return BAD;
        }
        Shelf from = shelves[shelf];
        Shelf to = shelves[other];
        if (from.holds == Shelf.NOTHING || to.holds == Shelf.NOTHING) {
            return MISSING;
        }
        if (from.holds != Shelf.ROW || to.holds != Shelf.ROW || from.sort != to.sort) {
            return OTHER_KIND;
        }
        if (!from.hasCells(i, n) || !to.hasCells(j, n)) {
            return NO_PLACE;
        }
        System.arraycopy(from.cells, i, to.cells, j, n);
        return n;
    }

    public int taken(int shelf, int k) {
        if (!isShelf(shelf) || !within(k, 0, Latches.KINDS - 1)) {
            return BAD;
        }
        Shelf held = shelves[shelf];
        if (held.holds == Shelf.NOTHING) {
            return MISSING;
        }
        if (held.holds != Shelf.LATCH || !latches.isThere(held.body)) {
            return OTHER_KIND;
        }
        int kind = latches.kinds[held.body];
        return Latches.isUnder(kind, k) ? kind : OTHER_KIND;
    }

    public int count(int what) {
        switch (what) {
            case 0:
                return now.count;
            case 1:
                return now.book.open;
            case 2:
                return tape.length;
            case 3:
                return changes.done;
            case 4:
                return latches.count;
            case 5:
                return latches.ran;
            default:
                return BAD;
        }
    }

    // ---- what calls must be like

    private static boolean within(int v, int least, int most) {
        return v >= least && v <= most;
    }

    private static boolean isShelf(int shelf) {
        return within(shelf, 0, SHELVES - 1);
    }

    private static boolean areShelves(int ss) {
        return ss >= 0 && isShelf(ss / 10) && isShelf(ss % 10);
    }

    private boolean isBuyer(int one) {
        return now.has(one);
    }

    private boolean isPair(int ab) {
        return ab >= 0 && isBuyer(ab / 10) && isBuyer(ab % 10) && ab / 10 != ab % 10;
    }

    private boolean isTold(int number, int what) {
        return what >= PURSE && what < THIRD && isBuyer(number)
                || what >= THIRD && what <= DAY && number == 0;
    }

    private static boolean isNumber(int what, int v) {
        return within(what, PURSE, DAY) && within(v, LEAST_NUMBER[what], MOST_NUMBER[what]);
    }

    /** 0, or why a SHELF does not give a ROW of bytes. */
    private int refusalOfBytes(int shelf) {
        if (!isShelf(shelf)) {
            return BAD;
        }
        if (shelves[shelf].holds == Shelf.NOTHING) {
            return MISSING;
        }
        return shelves[shelf].isRowOf(BYTES) ? 0 : OTHER_KIND;
    }

    /** 0, or why there is no such element. */
    private int refusalOfCell(int shelf, int i) {
        if (!isShelf(shelf)) {
            return BAD;
        }
        Shelf row = shelves[shelf];
        if (row.holds == Shelf.NOTHING) {
            return MISSING;
        }
        if (row.holds != Shelf.ROW) {
            return OTHER_KIND;
        }
        return within(i, 0, row.length - 1) ? 0 : NO_PLACE;
    }

    /** The comings of a SHELF's ROW are thought of next: 0, or why there are none to think of. */
    private int plan(int shelf) {
        int refusal = refusalOfBytes(shelf);
        if (refusal == 0) {
            thought.read(shelves[shelf], now.count);
        }
        return refusal;
    }

    /** The open debts, the oldest first. */
    private static final class Book {
        final int[] who = new int[MOST_THIRD];
        final int[] much = new int[MOST_THIRD];
        int open = 0;

        void add(int debtor, int owed) {
            if (open < MOST_THIRD) {
                who[open] = debtor;
                much[open] = owed;
                open++;
            }
        }

        void dropOldest() {
            if (open > 0) {
                open--;
                System.arraycopy(who, 1, who, 0, open);
                System.arraycopy(much, 1, much, 0, open);
            }
        }

        void become(Book other) {
            System.arraycopy(other.who, 0, who, 0, MOST_THIRD);
            System.arraycopy(other.much, 0, much, 0, MOST_THIRD);
            open = other.open;
        }
    }

    /** Buyers and their debts: the market as it is, one that is only thought of, or an image. */
    private static final class Market {
        int count = 0;
        final int[] purse = new int[MOST_BUYERS];
        final int[] wants = new int[MOST_BUYERS];
        final int[] haste = new int[MOST_BUYERS];
        final int[] dog = new int[MOST_BUYERS];
        final int[] often = new int[MOST_BUYERS];
        int third = 3;
        int dogs = 1;
        int day = 0;
        int came = 0;
        final Book book = new Book();
        Law law = new Law();
        final int[] led = new int[GIVEN + 1];
        final int[][] flow = new int[MOST_BUYERS][MOST_BUYERS];
        /** Of the latest coming: who paid first, how much all paid, for how much he bought. */
        int payer = NOBODY;
        int paid = 0;
        int bought = 0;
        private final int[] names = new int[Law.NAMES.length()];

        boolean has(int one) {
            return one >= 0 && one < count && one < MOST_BUYERS;
        }

        int add(int itsPurse, int itsWants, int itsHaste) {
            if (count >= MOST_BUYERS) {
                return FULL;
            }
            purse[count] = itsPurse;
            wants[count] = itsWants;
            haste[count] = itsHaste;
            dog[count] = 0;
            often[count] = 0;
            count++;
            return count - 1;
        }

        private int[] column(int what) {
            switch (what) {
                case PURSE:
                    return purse;
                case WANTS:
                    return wants;
                case HASTE:
                    return haste;
                default:
                    return dog;
            }
        }

        int number(int one, int what) {
            switch (what) {
                case THIRD:
                    return third;
                case DOGS:
                    return dogs;
                case DAY:
                    return day;
                default:
                    return has(one) ? column(what)[one] : BAD;
            }
        }

        void setNumber(int one, int what, int v) {
            if (what == THIRD) {
                third = v;
            } else if (what == DOGS) {
                dogs = v;
            } else if (what == DAY) {
                day = v;
            } else if (has(one)) {
                column(what)[one] = v;
            }
        }

        /** One comes in: how much he is paid. */
        int comesIn(int one) {
            payer = NOBODY;
            paid = 0;
            bought = 0;
            if (!has(one) || dogs == 0 && dog[one] == 1) {
                return 0;
            }
            int purseAhead = purse[one];
            // more than one debt is due where THIRD was made less
            for (int i = 0; i < MOST_THIRD && book.open >= third; i++) {
                payOldestTo(one);
            }
            bought = buysFor(one, purseAhead);
            book.add(one, bought);
            came++;
            often[one]++;
            led[COMINGS]++;
            led[PAID] += paid;
            return paid;
        }

        private void payOldestTo(int taker) {
            int debtor = book.who[0];
            int owed = book.much[0];
            book.dropOldest();
            if (payer == NOBODY) {
                payer = debtor;
            }
            if (debtor == taker || !has(debtor)) {
                return;
            }
            int coins = Math.min(owed, purse[debtor]);
            purse[debtor] -= coins;
            purse[taker] = Math.min(MOST_PURSE, purse[taker] + coins);
            paid += coins;
            led[LACKING] += owed - coins;
            flow[debtor][taker] += coins;
        }

        private int buysFor(int one, int purseAhead) {
            int much = 5 * wants[one] + haste[one] - 2 * often[one];
            if (law.told) {
                // as Law.NAMES has them
                names[0] = wants[one];
                names[1] = purseAhead;
                names[2] = haste[one];
                names[3] = came;
                names[4] = often[one];
                names[5] = day;
                much = law.value(names);
            }
            return Math.max(0, Math.min(MOST_BOUGHT, much));
        }

        /** An EVENING. */
        void dusk() {
            day = Math.min(MOST_DAY, day + 1);
            came = 0;
            for (int i = 0; i < MOST_BUYERS; i++) {
                often[i] = 0;
            }
            led[EVENINGS]++;
        }

        /** What deeds change is as with another, for the first of the BUYERS. */
        void takeDeeds(Market other, int buyers) {
            int n = Math.max(0, Math.min(buyers, MOST_BUYERS));
            System.arraycopy(other.purse, 0, purse, 0, n);
            System.arraycopy(other.often, 0, often, 0, n);
            System.arraycopy(other.led, 0, led, 0, GIVEN + 1);
            day = other.day;
            came = other.came;
            book.become(other.book);
        }

        /** All is as with another; what is led and who pays whom begins anew. */
        void become(Market other) {
            takeDeeds(other, MOST_BUYERS);
            count = other.count;
            System.arraycopy(other.wants, 0, wants, 0, MOST_BUYERS);
            System.arraycopy(other.haste, 0, haste, 0, MOST_BUYERS);
            System.arraycopy(other.dog, 0, dog, 0, MOST_BUYERS);
            third = other.third;
            dogs = other.dogs;
            law = other.law;
            for (int i = 0; i <= GIVEN; i++) {
                led[i] = 0;
            }
            for (int a = 0; a < MOST_BUYERS; a++) {
                for (int b = 0; b < MOST_BUYERS; b++) {
                    flow[a][b] = 0;
                }
            }
        }
    }

    /** A ROW of comings in thought, and what is asked of it and of rows like it. */
    private static final class Thought {
        /** More than any way from buyer to buyer can have. */
        private static final int FAR = 1000;
        private static final int MOST_ORDERS = 120;

        final Market market = new Market();
        final int[] comings = new int[MOST_COMINGS];
        int length = 0;
        final int[] payers = new int[MOST_COMINGS];
        final int[] paid = new int[MOST_COMINGS];
        final int[] bought = new int[MOST_COMINGS];
        /** What the best of the rows that were tried leaves. */
        int most = 0;
        final int[] ordered = new int[MOST_ORDERED];
        final int[] outcomes = new int[1 << MOST_TURNS];
        private final int[][] steps = new int[MOST_BUYERS][MOST_BUYERS];

        void read(Shelf row, int buyers) {
            length = 0;
            for (int i = 0; i < row.length && i < MOST_COMINGS; i++) {
                int who = (int) row.cells[i];
                if (who < 0 || who >= buyers) {
                    return;
                }
                comings[i] = who;
                length = i + 1;
            }
        }

        void runFrom(Market now) {
            market.become(now);
            run();
        }

        private void run() {
            for (int k = 0; k < length && k < MOST_COMINGS; k++) {
                paid[k] = market.comesIn(comings[k]);
                payers[k] = market.payer;
                bought[k] = market.bought;
            }
        }

        void runDays(Market now, int days) {
            market.become(now);
            for (int i = 0; i < days; i++) {
                if (i > 0) {
                    market.dusk();
                }
                run();
            }
        }

        int purseOrLacking(int one) {
            return market.has(one) ? market.purse[one] : market.led[LACKING];
        }

        private int purseBehind(Market now, int one) {
            market.become(now);
            for (int k = 0; k < length && k < MOST_COMINGS; k++) {
                market.comesIn(comings[k]);
            }
            return market.number(one, PURSE);
        }

        private void swap(int i, int j) {
            int kept = comings[i];
            comings[i] = comings[j];
            comings[j] = kept;
        }

        private void insert(int place, int who) {
            if (length < MOST_COMINGS && place >= 0 && place <= length) {
                System.arraycopy(comings, place, comings, place + 1, length - place);
                comings[place] = who;
                length++;
            }
        }

        int bestPlace(Market now, int one) {
            int which = 0;
            most = -1;
            insert(0, one);
            for (int place = 0; place < length; place++) {
                int left = purseBehind(now, one);
                if (left > most) {
                    most = left;
                    which = place;
                }
                // he who comes once more goes one place on
                if (place + 1 < length) {
                    swap(place, place + 1);
                }
            }
            return which;
        }

        int bestHired(Market now, int place, int one) {
            int which = 0;
            most = -1;
            insert(place, 0);
            for (int who = 0; who < now.count; who++) {
                comings[place] = who;
                int left = purseBehind(now, one);
                if (left > most) {
                    most = left;
                    which = who;
                }
            }
            return which;
        }

        int bestChanged(Market now, int one) {
            int which = NOT;
            most = purseBehind(now, one);
            for (int place = 0; place + 1 < length; place++) {
                swap(place, place + 1);
                int left = purseBehind(now, one);
                swap(place, place + 1);
                if (left > most) {
                    most = left;
                    which = place;
                }
            }
            return which;
        }

        void findBestOrder(Market now, int set, int one) {
            length = 0;
            for (int who = 0; who < MOST_BUYERS && length < MOST_ORDERED; who++) {
                if ((set >> who & 1) == 1) {
                    comings[length] = who;
                    length++;
                }
            }
            most = -1;
            boolean more = true;
            for (int i = 0; i < MOST_ORDERS && more; i++) {
                int left = purseBehind(now, one);
                if (left > most) {
                    most = left;
                    System.arraycopy(comings, 0, ordered, 0, length);
                }
                more = goToNextOrder();
            }
        }

        /** The next order by numbers: whether there is one. */
        private boolean goToNextOrder() {
            // what falls from one place on has no order behind it
            int i = length - 2;
            while (i >= 0 && comings[i] >= comings[i + 1]) {
                i--;
            }
            if (i < 0) {
                return false;
            }
            // the last one that is greater takes the place
            int j = length - 1;
            while (j > i && comings[j] <= comings[i]) {
                j--;
            }
            swap(i, j);
            int end = length - 1;
            for (int start = i + 1; start < end; start++) {
                swap(start, end);
                end--;
            }
            return true;
        }

        int smallestRing() {
            for (int a = 0; a < MOST_BUYERS; a++) {
                for (int b = 0; b < MOST_BUYERS; b++) {
                    steps[a][b] = a != b && market.flow[a][b] > 0 ? 1 : FAR;
                }
            }
            for (int via = 0; via < MOST_BUYERS; via++) {
                for (int a = 0; a < MOST_BUYERS; a++) {
                    for (int b = 0; b < MOST_BUYERS; b++) {
                        steps[a][b] = Math.min(steps[a][b], steps[a][via] + steps[via][b]);
                    }
                }
            }
            int least = FAR;
            for (int a = 0; a < MOST_BUYERS; a++) {
                least = Math.min(least, steps[a][a]);
            }
            return least < FAR ? least : NOT;
        }

        int whoGainsMost(Market now) {
            int which = NOT;
            int gain = 0;
            for (int who = 0; who < now.count; who++) {
                int its = market.purse[who] - now.purse[who];
                if (which == NOT || its > gain) {
                    which = who;
                    gain = its;
                }
            }
            return which;
        }

        /** The first place where the latest run is not as SEEN tells, NOT: there is none. */
        int firstUnlike(Shelf seen) {
            for (int k = 0; k < seen.length; k++) {
                if (k >= length || seen.cells[k] != NOT_SEEN && seen.cells[k] != payers[k]) {
                    return k;
                }
            }
            return NOT;
        }

        int thirdsThatFit(Market now, Shelf seen) {
            int bits = 0;
            for (int third = 1; third <= MOST_THIRD; third++) {
                market.become(now);
                market.third = third;
                run();
                if (firstUnlike(seen) == NOT) {
                    bits |= 1 << third;
                }
            }
            return bits;
        }

        int buyersThatFit(Market now, Shelf seen, int place) {
            int bits = 0;
            for (int who = 0; who < now.count; who++) {
                comings[place] = who;
                market.become(now);
                run();
                if (firstUnlike(seen) == NOT) {
                    bits |= 1 << who;
                }
            }
            return bits;
        }

        int wantsThatFit(Market now, Shelf seen, int one) {
            int bits = 0;
            for (int wants = LEAST_NUMBER[WANTS]; wants <= MOST_NUMBER[WANTS]; wants++) {
                market.become(now);
                market.setNumber(one, WANTS, wants);
                run();
                if (firstUnlike(seen) == NOT) {
                    bits |= 1 << wants;
                }
            }
            return bits;
        }

        /** Best play of both: what it ends with if the one stays out first (0), and if he comes in (1). */
        void playTurns(Market now, int one, int other, int n) {
            for (int choices = 0; choices < 1 << n; choices++) {
                market.become(now);
                // the first turn is the highest bit, so that neighbours differ by the last turn alone
                for (int turn = 0; turn < n; turn++) {
                    if ((choices >> (n - 1 - turn) & 1) == 1) {
                        market.comesIn(turn % 2 == 0 ? one : other);
                    }
                }
                outcomes[choices] = market.number(one, PURSE) - market.number(other, PURSE);
            }
            for (int turn = n - 1; turn > 0; turn--) {
                for (int i = 0; i < 1 << turn; i++) {
                    int out = outcomes[2 * i];
                    int in = outcomes[2 * i + 1];
                    outcomes[i] = turn % 2 == 0 ? Math.max(out, in) : Math.min(out, in);
                }
            }
        }

        /** One market by draws: the draw that it ends with. */
        int draw(Market now, int seed, int times, int dusk) {
            market.become(now);
            int z = seed;
            // where nobody is, nobody comes in, and nothing lacks
            for (int i = 0; i < times && now.count > 0; i++) {
                z = z * 1103515245 + 12345;
                if ((z >>> 16) % 12 < dusk) {
                    market.dusk();
                }
                market.comesIn((z >>> 8) % now.count);
            }
            return z;
        }
    }

    /** THE LAW, told as steps of a machine with a stack. */
    private static final class Law {
        static final String NAMES = "wphnod";
        /** Each byte of a text gives one step at most, and one ends the last line. */
        static final int MOST_STEPS = MOST_TAPE + 1;
        static final int NUMBER = 0, NAME = 1, ANSWER = 2, UNLESS_SKIP = 3;

        boolean told = false;
        private final int[] step = new int[MOST_STEPS];
        private final int[] with = new int[MOST_STEPS];
        private int length = 0;
        private final int[] stack = new int[MOST_STEPS];
        private int height = 0;

        void clear() {
            told = false;
            length = 0;
        }

        /** A step more: its place. A sign of the text that is none of the above is worked out as such. */
        int add(int its, int itsWith) {
            if (length < MOST_STEPS) {
                step[length] = its;
                with[length] = itsWith;
                length++;
            }
            return length - 1;
        }

        /** The step at a place skips to what is added next. */
        void aimAtNext(int place) {
            if (place >= 0 && place < length) {
                with[place] = length;
            }
        }

        private void push(int v) {
            if (height < MOST_STEPS) {
                stack[height] = v;
                height++;
            }
        }

        private int pop() {
            if (height <= 0) {
                return 0;
            }
            height--;
            return stack[height];
        }

        int value(int[] names) {
            height = 0;
            int at = 0;
            for (int i = 0; i < MOST_STEPS && at >= 0 && at < length; i++) {
                int its = step[at];
                int itsWith = with[at];
                at++;
                switch (its) {
                    case NUMBER:
                        push(itsWith);
                        break;
                    case NAME:
                        push(itsWith >= 0 && itsWith < names.length ? names[itsWith] : 0);
                        break;
                    case ANSWER:
                        return pop();
                    case UNLESS_SKIP:
                        if (pop() == 0) {
                            at = itsWith;
                        }
                        break;
                    case '!':
                        push(pop() == 0 ? 1 : 0);
                        break;
                    case '~':
                        push(-pop());
                        break;
                    default:
                        int right = pop();
                        push(joined(its, pop(), right));
                        break;
                }
            }
            return 0;
        }

        private static int joined(int sign, int a, int b) {
            switch (sign) {
                case '|':
                    return a != 0 || b != 0 ? 1 : 0;
                case '&':
                    return a != 0 && b != 0 ? 1 : 0;
                case '<':
                    return a < b ? 1 : 0;
                case '=':
                    return a == b ? 1 : 0;
                case '>':
                    return a > b ? 1 : 0;
                case '+':
                    return a + b;
                case '-':
                    return a - b;
                case '*':
                    return a * b;
                case '/':
                    return b == 0 ? 0 : a / b;
                case '%':
                    return b == 0 ? 0 : a % b;
                default:
                    return 0;
            }
        }
    }

    /** THE TAPE, read into a LAW byte by byte, up to the first with which no TEXT goes on. */
    private static final class Tape {
        private static final int MOST_OPEN = 6, MOST_DIGITS = 4;
        /** Stands for no byte: the end, or all that is behind a fault. */
        private static final int NONE = -1;

        private final int[] text = new int[MOST_TAPE];
        int length = 0;
        private int at = 0;
        private boolean faulty = false;
        private Law law = new Law();

        int add(int letter) {
            if (length < MOST_TAPE) {
                text[length] = letter;
                length++;
            }
            return length;
        }

        /** The LAW that was read; another one is overwritten next, so that no new one has to be made. */
        Law exchange(Law other) {
            Law whole = law;
            law = other;
            return whole;
        }

        /** The FAULT's place; below 0: there is none, and the LAW is told. */
        int read() {
            at = 0;
            faulty = false;
            law.clear();
            readLine();
            for (int i = 0; i < length && take(';'); i++) {
                readLine();
            }
            if (faulty || at < length) {
                return at;
            }
            law.told = true;
            return -1;
        }

        private int here() {
            return !faulty && at >= 0 && at < length ? text[at] : NONE;
        }

        private boolean take(int sign) {
            if (here() != sign) {
                return false;
            }
            at++;
            return true;
        }

        /** Whether it is one of two or three signs: which (it is taken), or NONE. */
        private int takeOf(String signs) {
            int sign = here();
            if (sign == NONE || signs.indexOf((char) sign) < 0) {
                return NONE;
            }
            at++;
            return sign;
        }

        private void readLine() {
            readEither(0);
            if (take('?')) {
                int skip = law.add(Law.UNLESS_SKIP, 0);
                readEither(0);
                law.add(Law.ANSWER, 0);
                law.aimAtNext(skip);
            } else {
                law.add(Law.ANSWER, 0);
            }
        }

        /** E; open: how many of ( ! - are open around it. */
        private void readEither(int open) {
            readBoth(open);
            for (int i = 0; i < length && take('|'); i++) {
                readBoth(open);
                law.add('|', 0);
            }
        }

        /** A. */
        private void readBoth(int open) {
            readCompared(open);
            for (int i = 0; i < length && take('&'); i++) {
                readCompared(open);
                law.add('&', 0);
            }
        }

        /** B. */
        private void readCompared(int open) {
            readSum(open);
            int sign = takeOf("<=>");
            if (sign != NONE) {
                readSum(open);
                law.add(sign, 0);
            }
        }

        /** S. */
        private void readSum(int open) {
            readProduct(open);
            int sign = takeOf("+-");
            for (int i = 0; i < length && sign != NONE; i++) {
                readProduct(open);
                law.add(sign, 0);
                sign = takeOf("+-");
            }
        }

        /** P. */
        private void readProduct(int open) {
            readPart(open);
            int sign = takeOf("*/%");
            for (int i = 0; i < length && sign != NONE; i++) {
                readPart(open);
                law.add(sign, 0);
                sign = takeOf("*/%");
            }
        }

        /** O. */
        private void readPart(int open) {
            int sign = here();
            if (isDigit(sign)) {
                readNumber();
                return;
            }
            int name = takeOf(Law.NAMES);
            if (name != NONE) {
                law.add(Law.NAME, Law.NAMES.indexOf((char) name));
                return;
            }
            if (open >= MOST_OPEN || takeOf("(!-") == NONE) {
                faulty = true;
                return;
            }
            if (sign == '(') {
                readEither(open + 1);
                if (!take(')')) {
                    faulty = true;
                }
                return;
            }
            readPart(open + 1);
            // a - ahead of an O is told by another sign than one between two
            law.add(sign == '-' ? '~' : sign, 0);
        }

        private void readNumber() {
            int v = 0;
            for (int i = 0; i < MOST_DIGITS && isDigit(here()); i++) {
                v = v * 10 + here() - '0';
                at++;
            }
            law.add(Law.NUMBER, v);
        }

        private static boolean isDigit(int sign) {
            return sign >= '0' && sign <= '9';
        }
    }

    /** What mend() changed, the oldest first: those done, and behind them those undone. */
    private static final class Changes {
        private static final int MOST = 40;

        final int[] number = new int[MOST];
        final int[] what = new int[MOST];
        final int[] before = new int[MOST];
        final int[] after = new int[MOST];
        int kept = 0;
        int done = 0;

        void add(int itsNumber, int itsWhat, int itsBefore, int itsAfter) {
            if (done >= MOST) {
                forgetOldest();
            }
            number[done] = itsNumber;
            what[done] = itsWhat;
            before[done] = itsBefore;
            after[done] = itsAfter;
            done++;
            kept = done;
        }

        private void forgetOldest() {
            done = MOST - 1;
            System.arraycopy(number, 1, number, 0, done);
            System.arraycopy(what, 1, what, 0, done);
            System.arraycopy(before, 1, before, 0, done);
            System.arraycopy(after, 1, after, 0, done);
        }
    }

    /** LATCHES by number, their KINDS' bodies, and THE TRACE. */
    private static final class Latches {
        static final int MOST = 50, KINDS = 8, MOST_TRACE = 24;
        private static final int ACTS = 4;
        private static final int COMES = 0, OWES = 1, PAYS = 2;
        /** No act goes as deep as this. */
        private static final int MOST_DEPTH = 40;
        /** The KIND above each KIND. */
        private static final int[] ABOVE = {-1, 0, 0, 2, 1, 3, 0, 4};
        /** The body of each KIND's own for each ACT, 0: it has none. */
        private static final int[] OWN_BODY = {
            1, 10, 11, 2,
            20, 0, 0, 0,
            0, 30, 0, 0,
            0, 41, 40, 0,
            0, 0, 50, 0,
            0, 0, 0, 60,
            70, 0, 0, 0,
            0, 80, 0, 81};

        final int[] kinds = new int[MOST];
        int count = 0;
        final int[] trace = new int[MOST_TRACE];
        int ran = 0;

        boolean isThere(int body) {
            return body >= 0 && body < count && body < MOST;
        }

        int add(int kind) {
            if (count >= MOST) {
                return FULL;
            }
            kinds[count] = kind;
            count++;
            return count - 1;
        }

        static boolean isUnder(int kind, int other) {
            int its = kind;
            for (int i = 0; i < KINDS && its >= 0 && its < KINDS; i++) {
                if (its == other) {
                    return true;
                }
                its = ABOVE[its];
            }
            return false;
        }

        /** The next KIND, from one on upwards, that has a body for an ACT. */
        private static int kindWithBody(int kind, int act) {
            int its = kind;
            for (int i = 0; i < KINDS && its > 0 && its < KINDS; i++) {
                if (OWN_BODY[its * ACTS + act] != 0) {
                    return its;
                }
                its = ABOVE[its];
            }
            return 0;
        }

        /** An ACT of a LATCH; 0, and no TRACE, where there is no such. */
        int perform(int latch, int act, int x) {
            ran = 0;
            if (!isThere(latch) || act < 0 || act >= ACTS) {
                return 0;
            }
            return run(latch, kinds[latch], act, x, 0);
        }

        /** An ACT by the body that a KIND has or gets from above. */
        private int run(int latch, int from, int act, int x, int depth) {
            if (depth >= MOST_DEPTH) {
                return 0;
            }
            int kind = kindWithBody(from, act);
            int body = OWN_BODY[kind * ACTS + act];
            if (ran < MOST_TRACE) {
                trace[ran] = body;
            }
            ran++;
            if (kind == 0) {
                return runTopmost(latch, act, x, depth + 1);
            }
            // of these each first asks the KIND above, only COW's owes() for another x
            int above = run(latch, ABOVE[kind], act, body == 41 ? x + 1 : x, depth + 1);
            switch (body) {
                case 20:
                    return above + 3;
                case 30:
                    return -above;
                case 40:
                    return above * 3;
                case 50:
                    return above - run(latch, kinds[latch], COMES, 2, depth + 1);
                case 60:
                    return above ^ 5;
                case 70:
                    return above * 2;
                case 80:
                    return above + run(latch, kinds[latch], PAYS, 2, depth + 1);
                case 81:
                    return above - 1;
                default:
                    return above;
            }
        }

        /** The bodies of LATCH, and of what it is told by. */
        private int runTopmost(int latch, int act, int x, int depth) {
            int kind = kinds[latch];
            switch (act) {
                case COMES:
                    return x + latch;
                case OWES:
                    return run(latch, kind, COMES, x, depth) * 2;
                case PAYS:
                    return x ^ latch;
                default:
                    int owed = run(latch, kind, OWES, x, depth);
                    return owed - run(latch, kind, PAYS, 1, depth);
            }
        }
    }

    /** What a SHELF holds. */
    private static final class Shelf {
        static final int NOTHING = 0, LATCH = 1, ROW = 2;

        int holds = NOTHING;
        int body = -1;
        int sort = BYTES;
        int length = 0;
        final long[] cells = new long[MOST_CELLS];

        boolean isRowOf(int itsSort) {
            return holds == ROW && sort == itsSort;
        }

        boolean hasCells(int from, int n) {
            return n >= 0 && n <= length && from >= 0 && from <= length - n;
        }

        /** A LATCH by its number, or nothing by a number below 0. */
        void holdLatch(int itsBody) {
            holds = itsBody < 0 ? NOTHING : LATCH;
            body = itsBody;
        }

        void holdRow(int itsSort, int n) {
            holds = ROW;
            sort = itsSort;
            length = Math.max(0, Math.min(n, MOST_CELLS));
            for (int i = 0; i < length; i++) {
                cells[i] = 0;
            }
        }

        /** What of v an element of the ROW's sort keeps. */
        long narrowed(long v) {
            switch (sort) {
                case 0:
                    return (byte) v;
                case 1:
                    return (short) v;
                case 2:
                    return (int) v;
                case 3:
                    return v;
                default:
                    return v != 0 ? 1 : 0;
            }
        }
    }
}
