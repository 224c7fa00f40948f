/** Promises 1 to 8: a new object, and what SHELVES hold. */
public final class ShelvesTest {
    private static final int MAX = Integer.MAX_VALUE;
    private static final int MIN = Integer.MIN_VALUE;
    private static final Checks CHECKS = new Checks();

    private static void due(String call, long got, long want) {
        CHECKS.due(call, got, want);
    }

    public static void main(String[] args) {
        promise1NewObject();
        promise2Row();
        promise3Set();
        promise4Copy();
        promise4CopyRefused();
        promise5Element();
        promise6Show();
        promise7Holds();
        promise8Says();
        CHECKS.end();
    }

    private static void promise1NewObject() {
        AskedTheOtherWayAbout x = new AskedTheOtherWayAbout();
        int[] status = {0, 0, 0, 5, 0, 0, 0, 1, 0};
        for (int what = 0; what < status.length; what++) {
            due("1: status(" + what + ")", x.status(what), status[what]);
        }
        CHECKS.due("1: refusals", Checks.refusals(x), "0 0 0 0 0 0 0");
        for (int s = 0; s < 8; s++) {
            due("1: holds(" + s + ")", x.holds(s), -1);
        }
        due("1: fault()", x.fault(), -1);
        due("1: trace(0)", x.trace(0), -1);
        due("1: hold()", x.hold(), 0);
        due("1: never()", x.never(), 0);
        due("1: answers(9, 1)", x.answers(9, 1), 0);
        due("1: cost(9)", x.cost(9), 0);
        due("1: fits(0, 1000)", x.fits(0, 1000), 0);
    }

    private static void promise2Row() {
        AskedTheOtherWayAbout x = new AskedTheOtherWayAbout();
        due("2: row(0, 0, 0)", x.row(0, 0, 0), 1);
        due("2: row(7, 3, 160)", x.row(7, 3, 160), 1);
        due("2: element(7, 159)", x.element(7, 159), 0);
        x.set(7, 159, 5);
        x.row(7, 3, 160);
        due("2: a new ROW's element", x.element(7, 159), 0);
        due("2: row(-1, 9, -1)", x.row(-1, 9, -1), -1);
        due("2: row(8, 0, 1)", x.row(8, 0, 1), -1);
        due("2: row(0, 9, -1)", x.row(0, 9, -1), -4);
        due("2: row(0, 4, 161)", x.row(0, 4, 161), -6);
        due("2: row(0, -1, 1)", x.row(0, -1, 1), -6);
        due("2: row(0, 3, 161)", x.row(0, 3, 161), -7);
        due("2: row(0, 3, MAX)", x.row(0, 3, MAX), -7);
        due("2: a refused row() changes nothing", x.holds(0), 100);
        CHECKS.due("2: refusals", Checks.refusals(x), "2 0 0 1 0 2 2");
    }

    private static void promise3Set() {
        AskedTheOtherWayAbout x = Checks.hundred();
        long v = 0x123456789ABCDEF0L;
        long[] kept = {(byte) v, (short) v, (int) v, v};
        for (int sort = 0; sort < 4; sort++) {
            x.row(sort, sort, 2);
            due("3: set of SORT " + sort, x.set(sort, 1, v), 1);
            due("3: kept of SORT " + sort, x.element(sort, 1), kept[sort]);
            due("3: the other one", x.element(sort, 0), 0);
        }
        x.set(0, 0, 200);
        due("3: 200 as a byte", x.element(0, 0), -56);
        x.set(1, 0, 40000);
        due("3: 40000 as a short", x.element(1, 0), -25536);
        x.show(4, 0);
        due("3: set(8, 9, 0)", x.set(8, 9, 0), -1);
        due("3: set(MIN, 0, 0)", x.set(MIN, 0, 0), -1);
        due("3: set of a QUESTION", x.set(4, 9, 0), -2);
        due("3: set of NOTHING", x.set(5, 9, 0), -3);
        due("3: set(0, 2, 0)", x.set(0, 2, 0), -5);
        due("3: set(0, -1, 0)", x.set(0, -1, 0), -5);
        due("3: set(0, MAX, 0)", x.set(0, MAX, 0), -5);
        CHECKS.due("3: refusals", Checks.refusals(x), "2 1 1 0 3 0 0");
    }

    private static void promise4Copy() {
        AskedTheOtherWayAbout x = new AskedTheOtherWayAbout();
        Checks.line(x, 0, 1, 2, 3, 4, 5);
        Checks.line(x, 1, 9, 9, 9);
        due("4: copy(0, 1, 3, 0, 2)", x.copy(0, 1, 3, 0, 2), 1);
        due("4: element(1, 0)", x.element(1, 0), 4);
        due("4: element(1, 1)", x.element(1, 1), 5);
        due("4: element(1, 2)", x.element(1, 2), 9);
        due("4: copy upwards in itself", x.copy(0, 0, 0, 1, 4), 1);
        int[] up = {1, 1, 2, 3, 4};
        for (int i = 0; i < 5; i++) {
            due("4: upwards " + i, x.element(0, i), up[i]);
        }
        due("4: copy downwards in itself", x.copy(0, 0, 1, 0, 4), 1);
        int[] down = {1, 2, 3, 4, 4};
        for (int i = 0; i < 5; i++) {
            due("4: downwards " + i, x.element(0, i), down[i]);
        }
        due("4: none from the end", x.copy(0, 1, 5, 3, 0), 1);
        due("4: whole ROWS", x.copy(1, 0, 0, 2, 3), 1);
    }

    private static void promise4CopyRefused() {
        AskedTheOtherWayAbout x = Checks.hundred();
        Checks.line(x, 0, 1, 2, 3, 4, 5);
        Checks.line(x, 1, 9, 9, 9);
        x.row(2, 3, 5);
        x.show(3, 1);
        due("4: copy(8, 3, ..)", x.copy(8, 3, 0, 0, 0), -1);
        due("4: copy(3, -1, ..)", x.copy(3, -1, 0, 0, 0), -1);
        due("4: a QUESTION and NOTHING", x.copy(3, 4, 0, 0, 0), -2);
        due("4: NOTHING and a QUESTION", x.copy(4, 3, 0, 0, 0), -2);
        due("4: two SORTS", x.copy(0, 2, 0, 0, -1), -2);
        due("4: a ROW and NOTHING", x.copy(0, 4, 0, 0, -1), -3);
        due("4: NOTHING and a ROW", x.copy(4, 0, 0, 0, -1), -3);
        due("4: NOTHING twice", x.copy(4, 4, 0, 0, -1), -3);
        due("4: n below 0", x.copy(0, 1, -1, 0, -1), -4);
        due("4: i below 0", x.copy(0, 1, -1, 0, 1), -5);
        due("4: j below 0", x.copy(0, 1, 0, -1, 1), -5);
        due("4: beyond the one", x.copy(0, 1, 4, 0, 2), -5);
        due("4: beyond the other", x.copy(0, 1, 0, 2, 2), -5);
        due("4: none beyond the end", x.copy(0, 1, 6, 0, 0), -5);
        due("4: i and n that wrap", x.copy(0, 0, MAX, 0, MAX), -5);
        due("4: j and n that wrap", x.copy(0, 0, 0, MAX, 5), -5);
        CHECKS.due("4: refusals", Checks.refusals(x), "2 3 3 1 7 0 0");
        due("4: nothing changed", x.element(1, 0), 9);
    }

    private static void promise5Element() {
        AskedTheOtherWayAbout x = Checks.hundred();
        Checks.line(x, 0, 7, -8);
        x.show(1, 0);
        due("5: element(0, 0)", x.element(0, 0), 7);
        due("5: element(0, 1)", x.element(0, 1), -8);
        due("5: element(0, 2)", x.element(0, 2), 0);
        due("5: element(0, -1)", x.element(0, -1), 0);
        due("5: element(0, MIN)", x.element(0, MIN), 0);
        due("5: element(1, 0)", x.element(1, 0), 0);
        due("5: element(2, 0)", x.element(2, 0), 0);
        due("5: element(8, 0)", x.element(8, 0), 0);
        due("5: element(-1, 0)", x.element(-1, 0), 0);
        x.show(0, 0);
        due("5: of a ROW that was", x.element(0, 0), 0);
        CHECKS.due("5: refusals", Checks.refusals(x), "0 0 0 0 0 0 0");
    }

    private static void promise6Show() {
        AskedTheOtherWayAbout x = Checks.hundred();
        due("6: show(0, 6)", x.show(0, 6), 1);
        due("6: holds(0)", x.holds(0), 6);
        due("6: show(0, 7)", x.show(0, 7), -1);
        due("6: show(0, -2)", x.show(0, -2), -1);
        due("6: show(8, 0)", x.show(8, 0), -1);
        due("6: show(-1, -1)", x.show(-1, -1), -1);
        due("6: holds(0) still", x.holds(0), 6);
        due("6: show(0, NONE)", x.show(0, -1), 0);
        due("6: holds(0) then", x.holds(0), -1);
        x.row(1, 1, 4);
        due("6: show(1, 0)", x.show(1, 0), 1);
        due("6: holds(1)", x.holds(1), 0);
        CHECKS.due("6: refusals", Checks.refusals(x), "4 0 0 0 0 0 0");
    }

    private static void promise7Holds() {
        AskedTheOtherWayAbout x = Checks.hundred();
        for (int sort = 0; sort < 4; sort++) {
            x.row(sort, sort, 0);
            due("7: holds(" + sort + ")", x.holds(sort), 100 + sort);
        }
        x.show(4, 5);
        due("7: holds(4)", x.holds(4), 5);
        due("7: holds(5)", x.holds(5), -1);
        due("7: holds(8)", x.holds(8), -1);
        due("7: holds(-1)", x.holds(-1), -1);
        CHECKS.due("7: refusals", Checks.refusals(x), "0 0 0 0 0 0 0");
    }

    private static void promise8Says() {
        AskedTheOtherWayAbout x = Checks.hundred();
        int[] share = {570, 770, 420, 900, 450, 250, 430};
        for (int q = 0; q < 7; q++) {
            x.show(0, q);
            due("8: says(0, QUESTION) of " + q, x.says(0, 0), share[q]);
        }
        // rows: the QUESTIONS, one of each KIND; columns: the KINDS that they are taken for
        int[][] says = {
            {570, -2, -2, -2, -2, -2, -2},
            {770, 50, -2, -2, -2, -2, -2},
            {420, -2, 100, -2, -2, -2, -2},
            {900, 80, -2, 80, -2, -2, -2},
            {450, -2, -2, -2, 80, -2, -2},
            {250, -2, 60, -2, -2, 60, -2},
            {430, -2, -2, -2, 45, -2, 45},
        };
        for (int q = 0; q < 7; q++) {
            x.show(1, q);
            for (int kind = 0; kind < 7; kind++) {
                due("8: " + q + " taken for " + kind, x.says(1, kind), says[q][kind]);
            }
        }
        AskedTheOtherWayAbout y = Checks.hundred();
        y.show(0, 0);
        y.row(1, 0, 3);
        due("8: says(8, 0)", y.says(8, 0), -1);
        due("8: says(0, 7)", y.says(0, 7), -1);
        due("8: says(1, -1)", y.says(1, -1), -1);
        due("8: says(1, 0)", y.says(1, 0), -2);
        due("8: says(2, 6)", y.says(2, 6), -3);
        due("8: says(0, 1)", y.says(0, 1), -2);
        CHECKS.due("8: refusals", Checks.refusals(y), "3 2 1 0 0 0 0");
        y.show(0, 4);
        due("8: BOXED of a 2", y.says(0, 4), 80);
        due("8: LED of a 9", y.question(3, 9), 7);
        y.show(0, 7);
        due("8: glad ten tenths at most", y.says(0, 3), 100);
        AskedTheOtherWayAbout z = new AskedTheOtherWayAbout();
        for (int kind = 0; kind < 7; kind++) {
            z.question(kind, 0);
            z.show(0, kind);
            int[] whole = {0, 50, 100, 50, 100, 100, 50};
            due("8: a KIND of a 0, " + kind, z.says(0, kind), whole[kind]);
        }
    }
}
