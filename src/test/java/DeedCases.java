/** Boundary cases of promises 22 to 29: comings, evenings, gifts, what is led, an image, changes undone. */
final class DeedCases {
    private DeedCases() { }

    private static void purses(ThirdAfter x, int... due) {
        for (int one = 0; one < due.length; one++) {
            Cases.due("PURSE of " + one, x.of(one, 0), due[one]);
        }
    }

    private static void led(ThirdAfter x, int... due) {
        for (int what = 0; what < due.length; what++) {
            Cases.due("led(" + what + ")", x.led(what), due[what]);
        }
    }

    // ---- a coming

    @Says(promise = 22, value = "One comes in: how much he is paid. BAD.")
    static void p22OneOfThoseThatCame() {
        Cases.refusedBeyond("comes(..)", 0, 3, ThirdAfter::comes, Cases.BAD);
        Cases.refusedBeyond(Markets::eight, "comes(..) of eight", 0, 7, ThirdAfter::comes, Cases.BAD);
        Cases.refused(Markets::nobody, "comes(0) of nobody", x -> x.comes(0), Cases.BAD);
        ThirdAfter x = Markets.eight();
        for (int one = 0; one <= 7; one++) {
            x.mend(0, 4, 5);
            Cases.due("comes(" + one + ")", x.comes(one), one < 5 ? 0 : 6 * (one - 4));
        }
    }

    @Says(promise = 22,
            value = "by the THIRD-th counted coming ahead of his own (of that day, or, as it is the morning, of what "
                    + "THE BOOK has), if that is there and open")
    static void p22TheThirdthAhead() {
        for (int third = 1; third <= 5; third++) {
            ThirdAfter x = Markets.of(0, 0, 9, 9, 5, 0);
            x.mend(0, 4, third);
            x.comes(1);
            for (int ahead = 1; ahead < third; ahead++) {
                Cases.due("by THIRD " + third + " as " + ahead + " came ahead", x.comes(0), 0);
            }
            Cases.due("by THIRD " + third + " as so many came ahead", x.comes(2), 54);
            Cases.due("he is paid once", x.comes(2), 0);
            purses(x, 100, 46, 154);
        }
    }

    @Says(promise = 22, value = "as it is the morning, of what THE BOOK has")
    static void p22OfWhatTheBookHasInTheMorning() {
        for (int third = 1; third <= 5; third++) {
            ThirdAfter x = Markets.of(0, 0, 9, 9, 5, 0);
            x.mend(0, 4, third);
            x.comes(1);
            for (int ahead = 1; ahead < third; ahead++) {
                x.evening();
                Cases.due("by THIRD " + third + " as " + ahead + " came ahead", x.comes(0), 0);
            }
            x.evening();
            x.evening();
            Cases.due("by THIRD " + third + " as so many came ahead", x.comes(2), 54);
        }
    }

    @Says(promise = 22,
            value = "who pays for how much he bought, or what he has in his PURSE, if that is less (what lacks is "
                    + "LACKING)")
    static void p22WhatHeHasIfThatIsLess() {
        int[] has = {0, 1, 19, 20, 21, 999}, pays = {0, 1, 19, 20, 20, 20};
        for (int i = 0; i < has.length; i++) {
            ThirdAfter x = Markets.four();
            x.comes(0);
            x.mend(0, 0, has[i]);
            Cases.due("20 are owed by a PURSE of " + has[i], x.comes(1), pays[i]);
            purses(x, has[i] - pays[i], 100 + pays[i]);
            led(x, 2, pays[i], 20 - pays[i], 0, 0);
        }
    }

    @Says(promise = 22,
            value = "the PURSE of him who comes is so much more (999 at most; what is above is lost; of himself: "
                    + "nothing changes, nothing lacks)")
    static void p22PurseOf999AtMost() {
        int[] has = {978, 979, 980, 998, 999}, then = {998, 999, 999, 999, 999};
        for (int i = 0; i < has.length; i++) {
            ThirdAfter x = Markets.four();
            x.mend(1, 0, has[i]);
            x.comes(0);
            Cases.due("is paid in full to a PURSE of " + has[i], x.comes(1), 20);
            purses(x, 80, then[i]);
            led(x, 2, 20, 0, 0, 0);
        }
    }

    @Says(promise = 22, value = "of himself: nothing changes, nothing lacks")
    static void p22OfHimself() {
        for (int has : new int[] {0, 19, 20, 100, 990, 999}) {
            ThirdAfter x = Markets.four();
            x.comes(0);
            x.mend(0, 0, has);
            Cases.due("of himself with " + has, x.comes(0), 0);
            purses(x, has, 100);
            led(x, 2, 0, 0, 0, 0);
            Cases.due("his first debt is open no more", x.book(0, 1), 18);
            Cases.due("count(1)", x.count(1), 1);
        }
    }

    @Says(promise = 22, value = "Then he buys (his debt is open).")
    static void p22ADebtOf0IsOpen() {
        ThirdAfter x = Markets.four();
        x.comes(2);
        Cases.due("count(1)", x.count(1), 1);
        Cases.due("who", x.book(0, 0), 2);
        Cases.due("how much", x.book(0, 1), 0);
        Cases.due("it is paid", x.comes(0), 0);
        Cases.due("who then", x.book(0, 0), 0);
    }

    @Says(promise = 22,
            value = "A DOG, as DOGS is 0, does not count: he is not paid, owes nobody, buys nothing, n, o are not "
                    + "more by him.")
    static void p22DogsThatDoNotCount() {
        ThirdAfter x = Markets.four();
        Markets.law(x, "n*10+o+20");
        x.mend(1, 3, 1);
        x.mend(0, 5, 0);
        x.comes(0);
        Cases.due("is not paid", x.comes(1), 0);
        Cases.due("what is owed stays open", x.count(1), 1);
        Cases.due("by whom", x.book(0, 0), 0);
        led(x, 1, 0, 0, 0, 0);
        Cases.due("the next is paid instead", x.comes(2), 20);
        Cases.due("n is not more by a DOG", x.book(0, 1), 30);
        x.mend(0, 5, 1);
        Cases.due("a DOG that counts is paid", x.comes(1), 30);
        Cases.due("o is not more by when he did not count", x.book(0, 1), 40);
        x.comes(1);
        Cases.due("o is more by when he did", x.book(0, 1), 51);
        x.mend(0, 5, 0);
        Cases.due("who is no DOG counts", x.comes(3), 51);
        Cases.due("his debt is open", x.book(0, 0), 3);
        led(x, 5, 20 + 30 + 51, 0, 0, 0);
    }

    @Says(promise = 22, value = "does not count")
    static void p22ADogOwesWhatHeBoughtAsHeCounted() {
        ThirdAfter x = Markets.four();
        x.mend(0, 3, 1);
        x.comes(0);
        x.mend(0, 5, 0);
        Cases.due("the next is paid by him", x.comes(1), 20);
        x.mend(1, 3, 1);
        Cases.due("he counted as he came in", x.comes(2), 10);
    }

    @Says(promise = 22, value = "THIRD made greater: nobody is paid till so many are open")
    static void p22ThirdMadeGreater() {
        ThirdAfter x = Markets.alike(7, 100, 100);
        Markets.comeIn(x, 0, 0);
        x.mend(0, 4, 5);
        for (int open = 1; open < 5; open++) {
            Cases.due("as " + open + " are open", x.comes(1), 0);
        }
        Cases.due("count(1)", x.count(1), 5);
        Cases.due("as five are open", x.comes(1), 7);
        Cases.due("count(1)", x.count(1), 5);
        Cases.due("of himself", x.comes(1), 0);
    }

    @Says(promise = 22,
            value = "made less: the oldest that are above it are paid to him who comes next, all of them, one behind "
                    + "the other.")
    static void p22ThirdMadeLess() {
        for (int third = 1; third <= 5; third++) {
            ThirdAfter x = Markets.alike(7, 100, 100);
            x.mend(0, 4, 5);
            Markets.comeIn(x, 0, 0, 0, 0, 0);
            x.mend(0, 4, third);
            Cases.due("count(1) ahead of him who comes next", x.count(1), 5);
            Cases.due("by THIRD " + third, x.comes(1), 7 * (6 - third));
            Cases.due("count(1)", x.count(1), third);
            Cases.due("the next is paid one", x.comes(1), third == 1 ? 0 : 7);
        }
    }

    @Says(promise = 22, value = "all of them, one behind the other")
    static void p22AllOfThemAsLongAsHeHas() {
        ThirdAfter x = Markets.alike(7, 100, 100, 989);
        x.mend(0, 4, 3);
        Markets.comeIn(x, 0, 1, 0);
        x.mend(0, 4, 1);
        x.mend(0, 0, 9);
        Cases.due("7, 7, and what is left", x.comes(2), 16);
        purses(x, 0, 93, 999);
        led(x, 4, 16, 5, 0, 0);
        ThirdAfter y = Markets.alike(7, 3, 100);
        y.mend(0, 4, 2);
        Markets.comeIn(y, 0, 1);
        y.mend(0, 4, 1);
        Cases.due("of another, and of himself", y.comes(1), 3);
        purses(y, 0, 103);
        led(y, 3, 3, 4, 0, 0);
    }

    // ---- an evening

    @Says(promise = 23,
            value = "AN EVENING: THE BOOK stays; DAY is one more (99 stays); n, o begin anew (THE BOOK's are no "
                    + "comings of the day).")
    static void p23DayOf99Stays() {
        ThirdAfter x = new ThirdAfter();
        Cases.due("evening()", x.evening(), 1);
        x.mend(0, 6, 97);
        Cases.due("evening() of DAY 97", x.evening(), 98);
        Cases.due("evening() of DAY 98", x.evening(), 99);
        Cases.due("evening() of DAY 99", x.evening(), 99);
        Cases.due("evening() again", x.evening(), 99);
        Cases.due("DAY", x.of(0, 6), 99);
        led(x, 0, 0, 0, 5, 0);
    }

    @Says(promise = 23, value = "n, o begin anew (THE BOOK's are no comings of the day)")
    static void p23NAndOBeginAnew() {
        ThirdAfter x = Markets.four();
        Markets.law(x, "n*10+o+5");
        x.mend(0, 4, 5);
        Markets.comeIn(x, 0, 0, 1);
        x.evening();
        Markets.comeIn(x, 1, 0);
        Cases.due("the first of the day", x.book(3, 1), 5);
        Cases.due("the second", x.book(4, 1), 15);
    }

    @Says(promise = 23, value = "AN EVENING: THE BOOK stays")
    static void p23TheBookStays() {
        ThirdAfter x = Markets.of(4, 0, 2, 0, 1, 0);
        x.mend(0, 4, 5);
        Markets.comeIn(x, 0, 1, 2, 0, 1);
        x.evening();
        int[] who = {0, 1, 2, 0, 1}, much = {20, 10, 5, 18, 8};
        for (int k = 0; k < 5; k++) {
            Cases.due("book(" + k + ", 0)", x.book(k, 0), who[k]);
            Cases.due("book(" + k + ", 1)", x.book(k, 1), much[k]);
        }
        purses(x, 100, 100, 100);
    }

    // ---- gifts

    @Says(promise = 24,
            value = "One gives another one v (1 .. 999; 999 at most there: above is lost): the giver's PURSE then.")
    static void p24From1To999() {
        ThirdAfter x = Markets.alike(7, 999, 0);
        Cases.due("gives(0, 1, 1)", x.gives(0, 1, 1), 998);
        purses(x, 998, 1);
        Cases.due("gives(0, 1, 998)", x.gives(0, 1, 998), 0);
        purses(x, 0, 999);
        Cases.due("gives(1, 0, 999)", x.gives(1, 0, 999), 0);
        purses(x, 999, 0);
        led(x, 0, 0, 0, 0, 1998);
        Cases.refusedBeyond(() -> Markets.alike(7, 999, 0), "gives(0, 1, ..)", 1, 999, (y, v) -> y.gives(0, 1, v),
                Cases.BAD);
    }

    @Says(promise = 24, value = "999 at most there: above is lost")
    static void p24AboveIsLost() {
        int[] has = {948, 949, 950, 999}, then = {998, 999, 999, 999};
        for (int i = 0; i < has.length; i++) {
            ThirdAfter x = Markets.alike(7, 60, has[i]);
            Cases.due("gives(0, 1, 50)", x.gives(0, 1, 50), 10);
            purses(x, 10, then[i]);
            led(x, 0, 0, 0, 0, 50);
        }
    }

    @Says(promise = 24, value = "BAD; STATE: he has not so much.")
    static void p24HeHasNotSoMuch() {
        Cases.due("all he has", Markets.alike(7, 60, 0).gives(0, 1, 60), 0);
        Cases.refused(() -> Markets.alike(7, 60, 0), "gives(0, 1, 61)", x -> x.gives(0, 1, 61), Cases.STATE);
        Cases.refused(() -> Markets.alike(7, 60, 0), "gives(0, 1, 999)", x -> x.gives(0, 1, 999), Cases.STATE);
        Cases.refused(() -> Markets.alike(7, 60, 0), "gives(1, 0, 1) of nothing", x -> x.gives(1, 0, 1), Cases.STATE);
        Cases.refused(() -> Markets.alike(7, 60, 0), "BAD ahead of STATE", x -> x.gives(1, 0, 1000), Cases.BAD);
        Cases.refused(() -> Markets.alike(7, 60, 0), "BAD ahead of STATE", x -> x.gives(1, 2, 1), Cases.BAD);
    }

    @Says(promise = 24, value = "One gives another one v")
    static void p24AnotherOne() {
        Cases.refusedBeyond("gives(.., 1, 1)", 0, 3, (x, n) -> x.gives(n, 1, 1), Cases.BAD);
        Cases.refusedBeyond("gives(1, .., 1)", 0, 3, (x, n) -> x.gives(1, n, 1), Cases.BAD);
        for (int one = 0; one <= 3; one++) {
            int n = one;
            Cases.refused("gives(" + one + ", " + one + ", 1)", x -> x.gives(n, n, 1), Cases.BAD);
        }
        ThirdAfter x = Markets.eight();
        Cases.due("gives(7, 0, 1)", x.gives(7, 0, 1), 99);
        Cases.due("gives(0, 7, 2)", x.gives(0, 7, 2), 99);
        Cases.refused(Markets::nobody, "gives(0, 1, 1) of nobody", y -> y.gives(0, 1, 1), Cases.BAD);
    }

    // ---- what is led

    @Says(promise = 25, value = "LED: comings (what 0), paid (1), LACKING (2), EVENINGS (3), given (4). BAD.")
    static void p25From0To4() {
        ThirdAfter x = Markets.four();
        x.mend(0, 0, 15);
        Markets.comeIn(x, 0, 1);
        x.evening();
        x.evening();
        x.evening();
        x.gives(3, 2, 4);
        led(x, 2, 15, 5, 3, 4);
        Cases.refusedBeyond("led(..)", 0, 4, ThirdAfter::led, Cases.BAD);
    }

    @Says(promise = 25, value = "LED: comings (that count), paid, LACKING, EVENINGS, given.")
    static void p25WhatIsAllOfIt() {
        ThirdAfter x = Markets.alike(99, 999, 999);
        for (int i = 0; i < 50; i++) {
            x.comes(i % 2);
            x.gives(i % 2, 1 - i % 2, 400);
            x.mend(0, 0, 999);
            x.mend(1, 0, 999);
        }
        led(x, 50, 49 * 99, 0, 0, 50 * 400);
    }

    // ---- an image

    @Says(promise = 27, value = "STATE: there is none.")
    static void p27NoImage() {
        Cases.refused(Markets::four, "back()", ThirdAfter::back, Cases.STATE);
        ThirdAfter x = new ThirdAfter();
        Cases.due("back()", x.back(), Cases.STATE);
        Cases.due("image()", x.image(), 0);
        Cases.due("back()", x.back(), 0);
        Cases.due("back() again", x.back(), 0);
    }

    @Says(promise = {26, 27},
            value = "AN IMAGE keeps PURSES, DAY, THE BOOK, n, o, what LED tells (laid back, CHANGES stay as they "
                    + "are).")
    static void p26WhatIsKept() {
        ThirdAfter x = Markets.four();
        Markets.law(x, "n*10+o+5");
        Markets.comeIn(x, 0, 1, 0);
        x.evening();
        Markets.comeIn(x, 0, 1);
        x.gives(3, 2, 9);
        Cases.due("image()", x.image(), 5);
        Markets.comeIn(x, 2, 0, 3);
        x.mend(0, 4, 4);
        Markets.comeIn(x, 2, 2, 2);
        x.evening();
        x.gives(3, 2, 9);
        Cases.due("back()", x.back(), 5);
        // 5 and 15, of himself nothing, in the morning 26 of himself nothing, 5
        purses(x, 100 - 5 + 15 - 5, 100 + 5 - 15 + 5, 109, 91);
        led(x, 5, 25, 0, 1, 9);
        Cases.due("DAY", x.of(0, 6), 1);
        Cases.due("count(1)", x.count(1), 1);
        Cases.due("who", x.book(0, 0), 1);
        Cases.due("how much", x.book(0, 1), 15);
        x.comes(0);
        Cases.due("n is 2, o is 1", x.book(1, 1), 26);
    }

    @Says(promise = {26, 27}, value = "laid back, CHANGES stay as they are")
    static void p27ChangesStay() {
        ThirdAfter x = Markets.four();
        x.image();
        x.mend(0, 0, 50);
        x.mend(0, 1, 9);
        x.mend(0, 6, 50);
        x.mend(0, 5, 0);
        x.undo();
        x.back();
        Cases.due("PURSE is laid back", x.of(0, 0), 100);
        Cases.due("DAY is laid back", x.of(0, 6), 0);
        Cases.due("WANTS are no part of it", x.of(0, 1), 9);
        Cases.due("count(3)", x.count(3), 4);
        Cases.due("redo()", x.redo(), 0);
        Cases.due("DOGS", x.of(0, 5), 0);
        Cases.due("undo() of DOGS", x.undo(), 4);
        Cases.due("undo() of DAY", x.undo(), 3);
        Cases.due("DAY", x.of(0, 6), 0);
        Cases.due("redo() of DAY", x.redo(), 1);
        Cases.due("DAY", x.of(0, 6), 50);
    }

    @Says(promise = 27, value = "It is laid back (BUYERS that came since as they are): comings.")
    static void p27BuyersThatCameSince() {
        ThirdAfter x = Markets.four();
        x.comes(0);
        x.image();
        x.buyer(7, 7);
        x.comes(4);
        x.gives(4, 0, 30);
        Cases.due("back()", x.back(), 1);
        Cases.due("count(0)", x.count(0), 5);
        purses(x, 100, 100, 100, 100, 90);
        Cases.due("his WANTS", x.of(4, 1), 7);
        ThirdAfter none = new ThirdAfter();
        none.image();
        for (int i = 0; i < 8; i++) {
            none.buyer(i, i);
            none.mend(i, 0, 500 + i);
        }
        Cases.due("back() to nobody", none.back(), 0);
        purses(none, 500, 501, 502, 503, 504, 505, 506, 507);
        ThirdAfter all = Markets.eight();
        all.image();
        all.gives(7, 0, 50);
        all.back();
        purses(all, 100, 100, 100, 100, 100, 100, 100, 100);
    }

    @Says(promise = 26, value = "AN IMAGE is kept: comings.")
    static void p26TheLatestAlone() {
        ThirdAfter x = Markets.four();
        Cases.due("image()", x.image(), 0);
        x.comes(0);
        Cases.due("image()", x.image(), 1);
        x.comes(1);
        Cases.due("back()", x.back(), 1);
        x.comes(1);
        x.comes(1);
        Cases.due("back() again", x.back(), 1);
        Cases.due("who owes", x.book(0, 0), 0);
        purses(x, 100, 100);
        ThirdAfter y = Markets.four();
        y.mend(1, 3, 1);
        y.mend(0, 5, 0);
        y.comes(0);
        y.comes(1);
        Cases.due("comings that count", y.image(), 1);
    }

    // ---- changes

    @Says(promise = {28, 29}, value = "STATE: none.")
    static void p28NoneMayBe() {
        Cases.refused(Markets::nobody, "undo()", ThirdAfter::undo, Cases.STATE);
        Cases.refused(Markets::nobody, "redo()", ThirdAfter::redo, Cases.STATE);
        Cases.refused(() -> Markets.alike(7, 100), "redo() with none undone", ThirdAfter::redo, Cases.STATE);
        ThirdAfter x = new ThirdAfter();
        x.mend(0, 4, 1);
        Cases.due("undo()", x.undo(), 0);
        Cases.due("undo() again", x.undo(), Cases.STATE);
        Cases.due("redo()", x.redo(), 0);
        Cases.due("redo() again", x.redo(), Cases.STATE);
        Cases.due("THIRD", x.of(0, 4), 1);
        Cases.refused(() -> {
            ThirdAfter y = Markets.four();
            y.undo();
            return y;
        }, "undo() with all undone", ThirdAfter::undo, Cases.STATE);
    }

    @Says(promise = {28, 29}, value = "all numbers of mend(); telling the same number is none")
    static void p28EachNumberAndNotTheSame() {
        int[] v = {0, 9, 9, 1, 5, 0, 99}, was = {100, 3, 5, 0, 3, 1, 0};
        for (int what = 0; what < 7; what++) {
            ThirdAfter x = Markets.of(3, 5);
            Cases.due("the same", x.mend(0, what, was[what]), was[what]);
            Cases.due("count(3)", x.count(3), 0);
            x.mend(0, what, v[what]);
            Cases.due("count(3)", x.count(3), 1);
            x.mend(0, what, v[what]);
            Cases.due("count(3)", x.count(3), 1);
            Cases.due("undo()", x.undo(), 0);
            Cases.due("of(0, " + what + ")", x.of(0, what), was[what]);
            x.mend(0, what, was[what]);
            Cases.due("redo() behind the same", x.redo(), 0);
            Cases.due("of(0, " + what + ")", x.of(0, what), v[what]);
        }
    }

    @Says(promise = {28, 29},
            value = "can be UNDONE, the latest first, and DONE AGAIN (as long as no other came behind)")
    static void p29AsLongAsNoOtherCameBehind() {
        ThirdAfter x = Markets.of(3, 5);
        x.mend(0, 0, 1);
        x.mend(0, 0, 2);
        x.mend(0, 0, 3);
        Cases.due("undo()", x.undo(), 2);
        Cases.due("undo()", x.undo(), 1);
        Cases.due("PURSE", x.of(0, 0), 1);
        Cases.due("redo()", x.redo(), 1);
        Cases.due("PURSE", x.of(0, 0), 2);
        Cases.due("undo()", x.undo(), 1);
        x.mend(0, 0, 7);
        Cases.due("redo() as another came", x.redo(), Cases.STATE);
        Cases.due("count(3)", x.count(3), 2);
        Cases.due("undo()", x.undo(), 1);
        Cases.due("PURSE", x.of(0, 0), 1);
        Cases.due("redo() of the other", x.redo(), 0);
        Cases.due("PURSE", x.of(0, 0), 7);
        x.undo();
        x.undo();
        x.mend(0, 0, 1000);
        x.mend(0, 1, 3);
        Cases.due("redo() behind what is none", x.redo(), 1);
    }

    private static ThirdAfter changed(int times) {
        ThirdAfter x = Markets.of(3, 5);
        for (int i = 1; i <= times; i++) {
            x.mend(0, 0, 100 + i);
        }
        return x;
    }

    private static void dueUndone(ThirdAfter x, int times, int purse) {
        for (int i = times - 1; i >= 0; i--) {
            Cases.due("undo()", x.undo(), i);
            Cases.due("PURSE", x.of(0, 0), purse + i);
        }
        Cases.due("undo()", x.undo(), Cases.STATE);
    }

    @Says(promise = {28, 29}, value = "40 at most are kept")
    static void p28FortyAtMost() {
        for (int times = 39; times <= 42; times++) {
            ThirdAfter x = changed(times);
            int kept = Math.min(40, times);
            Cases.due("count(3)", x.count(3), kept);
            dueUndone(x, kept, 100 + times - kept);
            for (int i = kept - 1; i >= 0; i--) {
                Cases.due("redo()", x.redo(), i);
            }
            Cases.due("redo()", x.redo(), Cases.STATE);
            Cases.due("PURSE", x.of(0, 0), 100 + times);
        }
        Cases.refused(() -> changed(41), "redo() with none undone", ThirdAfter::redo, Cases.STATE);
    }

    @Says(promise = {28, 29}, value = "40 at most are kept")
    static void p28TheLatestFortyOfUnlikeOnes() {
        int changes = 47;
        int[] whose = new int[changes], what = new int[changes], was = new int[changes], then = new int[changes];
        ThirdAfter x = Markets.eight();
        for (int i = 0; i < changes; i++) {
            what[i] = i % 5 == 0 ? 4 + i / 5 % 3 : i % 4;
            whose[i] = what[i] < 4 ? i * 3 % 8 : 0;
            was[i] = x.of(whose[i], what[i]);
            then[i] = what[i] == 3 || what[i] == 5 ? 1 - was[i] : was[i] == 5 ? 4 : 5;
            Cases.due("mend() " + i, x.mend(whose[i], what[i], then[i]), was[i]);
        }
        Cases.due("count(3)", x.count(3), 40);
        for (int i = changes - 1; i >= changes - 40; i--) {
            Cases.due("undo() of " + i, x.undo(), i - changes + 40);
            Cases.due("as it was ahead of " + i, x.of(whose[i], what[i]), was[i]);
        }
        Cases.due("undo()", x.undo(), Cases.STATE);
        for (int i = changes - 40; i < changes; i++) {
            Cases.due("redo() of " + i, x.redo(), changes - 1 - i);
            Cases.due("as it was behind " + i, x.of(whose[i], what[i]), then[i]);
        }
        Cases.due("redo()", x.redo(), Cases.STATE);
    }

    @Says(promise = {28, 29}, value = "40 at most are kept; deeds are none (PURSES, DAY by them, too)")
    static void p28FortyWithSomeUndone() {
        ThirdAfter x = changed(40);
        x.undo();
        x.mend(0, 0, 7);
        Cases.due("in the stead of one undone", x.count(3), 40);
        x.mend(0, 0, 7);
        Cases.due("the same is none", x.count(3), 40);
        Cases.due("undo()", x.undo(), 39);
        dueUndone(x, 39, 100);
        ThirdAfter y = changed(40);
        y.mend(0, 1, 9);
        y.undo();
        Cases.due("WANTS", y.of(0, 1), 3);
        dueUndone(y, 39, 101);
    }

    @Says(promise = {28, 29}, value = "deeds are none (PURSES, DAY by them, too)")
    static void p28DeedsAreNone() {
        ThirdAfter x = Markets.four();
        x.mend(0, 0, 60);
        x.mend(0, 6, 5);
        x.undo();
        Markets.comeIn(x, 0, 1);
        x.gives(2, 3, 5);
        x.evening();
        x.image();
        x.back();
        Cases.due("count(3)", x.count(3), 2);
        Cases.due("redo() of DAY", x.redo(), 0);
        Cases.due("DAY", x.of(0, 6), 5);
        x.evening();
        Cases.due("undo() of DAY", x.undo(), 2);
        Cases.due("DAY is what it was ahead of the change", x.of(0, 6), 0);
        Cases.due("undo() of PURSE", x.undo(), 1);
        purses(x, 100, 120, 95, 105);
        Cases.due("redo() of PURSE", x.redo(), 1);
        purses(x, 60, 120, 95, 105);
    }
}
