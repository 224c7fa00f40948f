/** Promises 34 to 43: told ROUNDS, what happens in truth, ACTS, THE IMAGE, and how many. */
public final class TruthTest {
    private static final int MAX = Integer.MAX_VALUE;
    private static final int MIN = Integer.MIN_VALUE;
    private static final Checks CHECKS = new Checks();

    private static void due(String call, long got, long want) {
        CHECKS.due(call, got, want);
    }

    public static void main(String[] args) {
        promise34Judge();
        promise34JudgeRefused();
        promise35Round();
        promise35RoundRefused();
        promise36Change();
        promise36ChangeRefused();
        promise37Doors();
        promise37DoorsRefused();
        promise38Seed();
        promise39And40Acts();
        promise39Refused();
        promise41And42Image();
        promise42Shelves();
        promise43Status();
        CHECKS.end();
    }

    private static void promise34Judge() {
        AskedTheOtherWayAbout x = Checks.hundred();
        Checks.line(x, 0, 6, 0, 3, 6, 7, -1);
        due("34: judge(0, 0)", x.judge(0, 0), -1);
        due("34: judge(0, 3)", x.judge(0, 3), -1);
        due("34: was there", x.judge(0, 4), 3);
        due("34: the first", x.judge(0, 6), 3);
        Checks.line(x, 1, 0, 7, 0);
        due("34: no such QUESTION", x.judge(1, 3), 1);
        Checks.line(x, 2, -1);
        due("34: NONE is none", x.judge(2, 1), 0);
        x.row(3, 3, 2);
        x.set(3, 0, (9L << 32) + 5);
        x.set(3, 1, (8L << 32) + 5);
        due("34: a long's lowest bits", x.judge(3, 1), -1);
        due("34: the same lowest bits", x.judge(3, 2), 1);
        Checks.line(x, 4, 32, 0);
        due("34: 32 is none", x.judge(4, 2), 0);
        x.row(5, 0, 30);
        due("34: 20 are told", x.judge(5, 20), 1);
        CHECKS.due("34: refusals", Checks.refusals(x), "0 0 0 0 0 0 0");
    }

    private static void promise34JudgeRefused() {
        AskedTheOtherWayAbout x = Checks.hundred();
        x.show(0, 0);
        x.row(2, 0, 30);
        x.row(3, 0, 3);
        due("34: judge(8, -1)", x.judge(8, -1), -11);
        due("34: judge(0, -1)", x.judge(0, -1), -12);
        due("34: judge(1, -1)", x.judge(1, -1), -13);
        due("34: judge(2, -1)", x.judge(2, -1), -14);
        due("34: judge(3, 4)", x.judge(3, 4), -15);
        due("34: judge(3, 21)", x.judge(3, 21), -15);
        due("34: judge(2, 21)", x.judge(2, 21), -16);
        due("34: judge(2, MAX)", x.judge(2, MAX), -15);
        due("34: judge(2, MIN)", x.judge(2, MIN), -14);
        CHECKS.due("34: refusals", Checks.refusals(x), "1 1 1 2 3 1 0");
    }

    private static void promise35Round() {
        AskedTheOtherWayAbout x = Checks.hundred();
        x.bears(0, 3, 9);
        x.bears(1, 3, 9);
        x.bears(2, 3, -9);
        x.bears(3, 0, -9);
        x.bears(0, 5, -9);
        x.bears(1, 5, -9);
        x.bears(3, 5, -9);
        Checks.line(x, 0, 0, 1, 3, 5, 2);
        due("35: SHARE of the first", x.round(0, 5, 0), 570);
        due("35: held at 1000", x.round(0, 5, 2), 1000);
        due("35: held at 0", x.round(0, 5, 3), 0);
        due("35: SHARE of the last", x.round(0, 5, 4), 420);
        due("35: LEANS", x.round(0, 5, -1), 100 + 250);
        due("35: LEANS of a part", x.round(0, 3, -1), 100);
        due("35: LEANS of nobody", x.round(0, 0, -1), 0);
        Checks.line(x, 1, 0, 1, 2, 3);
        due("35: SHARE is held once", x.round(1, 4, 3), 990);
        Checks.line(x, 2, 3, 0);
        due("35: the other way about", x.round(2, 2, 1), 480);
        due("35: LEANS whatever the sign", x.round(2, 2, -1), 90);
        Checks.line(x, 3, 1, 5, 0);
        due("35: not by one behind it", x.round(3, 3, 1), 160);
        due("35: nor LEANS", x.round(3, 3, -1), 90);
        AskedTheOtherWayAbout y = new AskedTheOtherWayAbout();
        y.question(0, 0);
        y.question(0, 0);
        y.bears(0, 1, 9);
        Checks.line(y, 0, 0, 1);
        due("35: SHARE of no people", y.round(0, 2, 1), 90);
    }

    private static void promise35RoundRefused() {
        AskedTheOtherWayAbout x = Checks.hundred();
        x.show(0, 0);
        x.row(2, 0, 30);
        Checks.line(x, 3, 0, 0, 1);
        due("35: round(-1, -1, 9)", x.round(-1, -1, 9), -1);
        due("35: round(0, -1, 9)", x.round(0, -1, 9), -2);
        due("35: round(1, -1, 9)", x.round(1, -1, 9), -3);
        due("35: round(2, -1, 9)", x.round(2, -1, 9), -4);
        due("35: round(3, 4, 0)", x.round(3, 4, 0), -5);
        due("35: round(3, 1, 1)", x.round(3, 1, 1), -5);
        due("35: round(3, 1, -2)", x.round(3, 1, -2), -5);
        due("35: round(3, 0, 0)", x.round(3, 0, 0), -5);
        due("35: no such i of a WRONG one", x.round(3, 2, 2), -5);
        due("35: no such i of too many", x.round(2, 21, 21), -5);
        due("35: too many", x.round(2, 21, 20), -6);
        due("35: WRONG", x.round(3, 2, -1), -6);
        due("35: WRONG behind the i-th", x.round(3, 3, 0), -6);
        CHECKS.due("35: refusals", Checks.refusals(x), "1 1 1 1 6 3 0");
    }

    private static void promise36Change() {
        AskedTheOtherWayAbout x = Checks.hundred();
        due("36: ten of a GROUP", x.change(1, 2, 10), 3);
        int[] rest = {15, 1, 4, 10, 10};
        int[] those = {10, 2, 4, 10, 10};
        for (int what = 0; what < 5; what++) {
            due("36: the rest, " + what, x.groupOf(1, what), rest[what]);
            due("36: those, " + what, x.groupOf(3, what), those[what]);
        }
        due("36: a whole GROUP", x.change(0, 1, 40), 0);
        due("36: its VIEW", x.groupOf(0, 1), 1);
        due("36: its COUNT", x.groupOf(0, 0), 40);
        due("36: status(1)", x.status(1), 4);
        due("36: status(2)", x.status(2), 100);
        for (int g = 4; g < 10; g++) {
            due("36: one at a time", x.change(2, 0, 1), g);
        }
        due("36: no room", x.change(2, 0, 1), -7);
        due("36: a whole one needs none", x.change(2, 0, 29), 2);
        due("36: WRONG ahead of ROOM", x.change(2, 0, 1), -6);
        due("36: the GROUP with no room for it", x.groupOf(2, 0), 29);
        CHECKS.due("36: refusals", Checks.refusals(x), "0 0 0 0 0 1 1");
    }

    private static void promise36ChangeRefused() {
        AskedTheOtherWayAbout x = Checks.hundred();
        due("36: change(3, 3, 0)", x.change(3, 3, 0), -1);
        due("36: change(-1, 0, 1)", x.change(-1, 0, 1), -1);
        due("36: change(0, 0, 1)", x.change(0, 0, 1), -6);
        due("36: change(0, 3, 1)", x.change(0, 3, 1), -6);
        due("36: change(0, -1, 1)", x.change(0, -1, 1), -6);
        due("36: change(0, 1, 0)", x.change(0, 1, 0), -6);
        due("36: change(0, 1, 41)", x.change(0, 1, 41), -6);
        due("36: change(0, 1, MIN)", x.change(0, 1, MIN), -6);
        due("36: nothing changed", x.groupOf(0, 0) + x.groupOf(0, 1), 40);
        CHECKS.due("36: refusals", Checks.refusals(x), "2 0 0 0 0 6 0");
    }

    /** A DRAW as the document tells it, with a long that keeps its lowest 32 bits. */
    private static int draw(long[] seed, int n) {
        seed[0] = seed[0] * 1103515245L + 12345L & 0xFFFFFFFFL;
        return (int) (seed[0] / 65536 % n);
    }

    private static void promise37Doors() {
        AskedTheOtherWayAbout x = Checks.hundred();
        x.group(9, 1, 3, 8, 9);
        x.seed(-123456789);
        long[] seed = {-123456789L & 0xFFFFFFFFL};
        int asked = 0;
        int yeses = 0;
        for (int doors = 1; doors <= 200; doors += 66) {
            int said = 0;
            for (int door = 0; door < doors; door++) {
                int g = draw(seed, 4);
                if (draw(seed, 10) < x.groupOf(g, 3) && draw(seed, 10) < x.groupOf(g, 4)) {
                    int q = draw(seed, 7);
                    int count = x.groupOf(g, 0);
                    if (draw(seed, count) < x.yes(q, g, count)) said++;
                    asked++;
                }
            }
            yeses += said;
            due("37: doors(" + doors + ")", x.doors(doors), said);
            due("37: status(5)", x.status(5), asked);
            due("37: status(6)", x.status(6), yeses);
            due("37: status(7)", x.status(7), (int) seed[0]);
        }
        AskedTheOtherWayAbout y = new AskedTheOtherWayAbout();
        y.question(0, 0);
        y.group(1, 0, 0, 10, 10);
        due("37: all say yes", y.doors(200), 200);
        y.change(0, 1, 1);
        due("37: all say no", y.doors(200), 0);
        due("37: ASKED", y.status(5), 400);
        due("37: YESES", y.status(6), 200);
    }

    private static void promise37DoorsRefused() {
        AskedTheOtherWayAbout x = new AskedTheOtherWayAbout();
        due("37: doors(0) of none", x.doors(0), -5);
        x.question(0, 0);
        due("37: no GROUPS", x.doors(1), -5);
        x.group(5, 0, 0, 5, 5);
        due("37: doors(0)", x.doors(0), -6);
        due("37: doors(201)", x.doors(201), -6);
        due("37: doors(MIN)", x.doors(MIN), -6);
        due("37: no DRAW", x.status(7), 1);
        CHECKS.due("37: refusals", Checks.refusals(x), "0 0 0 0 2 3 0");
        AskedTheOtherWayAbout y = new AskedTheOtherWayAbout();
        y.group(5, 0, 0, 5, 5);
        due("37: no QUESTIONS", y.doors(1), -5);
    }

    private static void promise38Seed() {
        AskedTheOtherWayAbout x = new AskedTheOtherWayAbout();
        due("38: seed(MIN)", x.seed(MIN), 1);
        due("38: seed(MAX)", x.seed(MAX), MIN);
        due("38: seed(0)", x.seed(0), MAX);
        due("38: status(7)", x.status(7), 0);
        CHECKS.due("38: refusals", Checks.refusals(x), "0 0 0 0 0 0 0");
    }

    private static void actDue(AskedTheOtherWayAbout x, int question, int act, int got, String trace) {
        String call = "39: act(" + question + ", " + act + ", 5)";
        due(call, x.act(question, act, 5), got);
        CHECKS.due(call + " trace", Checks.trace(x), trace);
        due(call + " bodies", x.status(8), trace.split(" ").length);
    }

    private static void promise39And40Acts() {
        AskedTheOtherWayAbout x = new AskedTheOtherWayAbout();
        int[] a = {0, 3, 0, 9, 2, 4, 1};
        for (int kind = 0; kind < 7; kind++) {
            x.question(kind, a[kind]);
        }
        actDue(x, 0, 0, 5, "10");
        actDue(x, 0, 1, 10, "11 10");
        actDue(x, 0, 2, 15, "12 11 10 10");
        actDue(x, 1, 0, 9, "20 10");
        actDue(x, 1, 1, 18, "11 20 10");
        actDue(x, 1, 2, 20, "12 11 20 10 20 10");
        actDue(x, 2, 0, 7, "10");
        actDue(x, 2, 1, 42, "30 11 10");
        actDue(x, 2, 2, 45, "12 30 11 10 10");
        actDue(x, 3, 0, 17, "20 10");
        actDue(x, 3, 1, 36, "40 11 20 10");
        actDue(x, 3, 2, 44, "12 40 11 20 10 20 10");
        actDue(x, 4, 0, 5, "51 10");
        actDue(x, 4, 1, 10, "11 51 10");
        actDue(x, 4, 2, -9, "50 12 11 51 10 51 10");
        actDue(x, 5, 0, 10, "10");
        actDue(x, 5, 1, 60, "30 11 10");
        actDue(x, 5, 2, 63, "60 12 30 11 10 10");
        actDue(x, 6, 0, 10, "70 51 10");
        actDue(x, 6, 1, 16, "71 11 70 51 10");
        actDue(x, 6, 2, -24, "50 12 71 11 70 51 10 70 51 10");
        due("40: trace(-1)", x.trace(-1), -1);
        due("40: trace(9)", x.trace(9), 10);
        due("40: trace(10)", x.trace(10), -1);
        due("40: trace(MIN)", x.trace(MIN), -1);
        due("40: trace(MAX)", x.trace(MAX), -1);
        due("39: FORBID turns bits about", x.act(5, 2, 4), 54 ^ 5 ^ 5);
        due("39: wraps", x.act(3, 0, MAX), MIN + 11);
        due("39: wraps", x.act(2, 1, MAX), 6);
        due("39: wraps", x.act(5, 1, MIN), 30);
    }

    private static void promise39Refused() {
        AskedTheOtherWayAbout x = Checks.hundred();
        x.act(6, 2, 5);
        due("39: act(7, 0, 5)", x.act(7, 0, 5), 0);
        due("39: no TRACE then", x.trace(0), -1);
        due("39: no bodies then", x.status(8), 0);
        x.act(6, 2, 5);
        due("39: act(-1, 0, 5)", x.act(-1, 0, 5), 0);
        due("39: no TRACE then", x.trace(0), -1);
        x.act(6, 2, 5);
        due("39: act(0, 3, 5)", x.act(0, 3, 5), 0);
        due("39: no TRACE then", x.trace(0), -1);
        x.act(6, 2, 5);
        due("39: act(0, -1, 5)", x.act(0, -1, 5), 0);
        due("39: no bodies then", x.status(8), 0);
        CHECKS.due("39: refusals", Checks.refusals(x), "0 0 0 0 0 0 0");
    }

    private static void promise41And42Image() {
        AskedTheOtherWayAbout x = Checks.hundred();
        due("42: restore() of none", x.restore(), -6);
        x.bears(0, 1, 4);
        x.ask(0, 8);
        x.ask(1, 3);
        x.seed(99);
        x.doors(50);
        int[] status = new int[8];
        for (int what = 0; what < 8; what++) {
            status[what] = x.status(what);
        }
        due("41: image()", x.image(), 7);
        x.bears(0, 1, 5);
        x.bears(3, 1, -5);
        x.ask(0, 9);
        x.ask(1, 4);
        x.doors(60);
        x.question(0, 7);
        x.bears(7, 0, 2);
        x.group(3, 0, 0, 0, 0);
        x.change(0, 2, 40);
        x.change(1, 0, 4);
        Checks.tell(x, "penny x");
        x.act(4, 2, 5);
        due("42: restore()", x.restore(), 7);
        for (int what = 0; what < 8; what++) {
            due("42: status(" + what + ")", x.status(what), status[what]);
        }
        due("42: BEARS", x.bears(0, 1, 0), 4);
        due("42: BEARS", x.bears(3, 1, 0), 0);
        due("42: VIEW", x.groupOf(0, 1), 0);
        due("42: COUNT", x.groupOf(1, 0), 25);
        due("42: the FAULT stays", x.fault(), 6);
        CHECKS.due("42: THE TRACE stays", Checks.trace(x), "50 12 11 51 10 51 10");
        due("42: REFUSALS stay", x.status(16), 2);
        x.question(1, 1);
        due("42: BEARS of a new one", x.bears(7, 0, 0), 0);
        x.ask(0, 77);
        due("42: restore() again", x.restore(), 7);
        due("42: PENNY again", x.status(3), 8);
        due("42: BEARS again", x.bears(0, 1, 0), 4);
        x.question(2, 2);
        due("41: image() again", x.image(), 8);
        x.ask(0, 50);
        due("42: restore() of that", x.restore(), 8);
        due("42: KIND", x.questionOf(7, 0), 2);
    }

    private static void promise42Shelves() {
        AskedTheOtherWayAbout x = new AskedTheOtherWayAbout();
        due("41: image() of none", x.image(), 0);
        x.question(3, 0);
        x.show(0, 0);
        due("42: restore() of none", x.restore(), 0);
        due("42: NOTHING then", x.holds(0), -1);
        x.question(4, 1);
        x.image();
        x.question(5, 2);
        x.question(6, 3);
        x.show(0, 0);
        x.show(1, 1);
        x.show(2, 2);
        x.row(3, 0, 2);
        x.set(3, 1, 6);
        due("42: restore()", x.restore(), 1);
        due("42: holds(0)", x.holds(0), 0);
        due("42: holds(1)", x.holds(1), -1);
        due("42: holds(2)", x.holds(2), -1);
        due("42: a ROW stays", x.holds(3), 100);
        due("42: its element", x.element(3, 1), 6);
    }

    private static void promise43Status() {
        AskedTheOtherWayAbout x = Checks.hundred();
        x.ask(0, 17);
        x.ask(1, 6);
        x.seed(4711);
        x.act(6, 2, 0);
        int[] status = {7, 3, 100, 17, 6, 0, 0, 4711, 10};
        for (int what = 0; what < status.length; what++) {
            due("43: status(" + what + ")", x.status(what), status[what]);
        }
        due("43: status(9)", x.status(9), -1);
        due("43: status(10)", x.status(10), -1);
        due("43: status(18)", x.status(18), -1);
        due("43: status(-1)", x.status(-1), -1);
        due("43: status(MIN)", x.status(MIN), -1);
        due("43: status(MAX)", x.status(MAX), -1);
        x.row(9, 0, 0);
        x.row(0, 0, 1);
        x.show(1, 0);
        x.set(1, 0, 0);
        x.set(2, 0, 0);
        x.set(2, 0, 0);
        x.copy(0, 0, 0, 0, -1);
        x.set(0, 1, 0);
        x.ask(2, 0);
        x.row(0, 0, 161);
        x.row(0, 0, 161);
        CHECKS.due("43: refusals", Checks.refusals(x), "1 1 2 1 1 1 2");
        x.twin(9);
        x.halves(9);
        x.by(0, 0, 9);
        x.move(0, -1);
        CHECKS.due("43: counted by their own number", Checks.refusals(x), "3 1 2 1 2 2 2");
    }
}
