/** All that an object answers, as one text, the most hidden last: a call may not follow it. Some 300 calls. */
final class Probe {
    private final ThirdAfter x;
    private final StringBuilder told = new StringBuilder();
    private final int buyers;

    private Probe(ThirdAfter of) {
        x = of;
        buyers = Math.max(0, Math.min(8, x.count(0)));
    }

    static String all(ThirdAfter x) {
        Probe p = new Probe(x);
        p.look();
        p.shelves();
        p.sorts();
        p.purchases();
        p.changes();
        p.tell("law()", x.law());
        p.purchases();
        p.tell("back()", x.back());
        p.look();
        p.purchases();
        return p.told.toString();
    }

    private void tell(String call, long answer) {
        told.append(call).append(" answered ").append(answer).append('\n');
    }

    private void numbers() {
        for (int what = 0; what < 4; what++) {
            for (int one = 0; one < buyers; one++) {
                tell("of(" + one + ", " + what + ")", x.of(one, what));
            }
        }
        for (int what = 4; what < 7; what++) {
            tell("of(0, " + what + ")", x.of(0, what));
        }
    }

    private void look() {
        for (int what = 0; what < 6; what++) {
            tell("count(" + what + ")", x.count(what));
        }
        numbers();
        for (int k = 0; k < 5; k++) {
            tell("book(" + k + ", 0)", x.book(k, 0));
            tell("book(" + k + ", 1)", x.book(k, 1));
        }
        for (int what = 0; what < 5; what++) {
            tell("led(" + what + ")", x.led(what));
        }
        int ran = Math.max(0, Math.min(24, x.count(5)));
        for (int i = 0; i <= ran; i++) {
            tell("trace(" + i + ")", x.trace(i));
        }
    }

    private void shelves() {
        for (int shelf = 0; shelf < 6; shelf++) {
            tell("taken(" + shelf + ", 0)", x.taken(shelf, 0));
            for (int i = 0; i < 6; i++) {
                tell("element(" + shelf + ", " + i + ")", x.element(shelf, i));
            }
        }
    }

    /** For how much each buys as it is: by THE LAW, n, o, DAY. */
    private void purchases() {
        x.row(0, 0, 8);
        for (int k = 1; k < buyers; k++) {
            x.put(0, k, k);
        }
        for (int k = 0; k < buyers; k++) {
            tell("coming(0, " + k + ", 2)", x.coming(0, k, 2));
        }
    }

    private void changes() {
        int answer = 0;
        for (int i = 0; i < 41 && answer >= 0; i++) {
            answer = x.redo();
            tell("redo()", answer);
        }
        numbers();
        answer = 0;
        for (int i = 0; i < 41 && answer >= 0; i++) {
            answer = x.undo();
            tell("undo()", answer);
        }
        numbers();
    }

    /** What an element keeps tells the sort of its ROW. */
    private void sorts() {
        for (int shelf = 0; shelf < 6; shelf++) {
            tell("put(" + shelf + ", 0, ..)", x.put(shelf, 0, 0x1234567890ABL));
            tell("element(" + shelf + ", 0)", x.element(shelf, 0));
        }
    }
}
