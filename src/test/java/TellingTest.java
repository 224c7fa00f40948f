/** Promises 17 to 33: what is said, and what comes of it. */
public final class TellingTest {
    private static final int MAX = Integer.MAX_VALUE;
    private static final int MIN = Integer.MIN_VALUE;
    private static final Checks CHECKS = new Checks();

    private static void due(String call, long got, long want) {
        CHECKS.due(call, got, want);
    }

    public static void main(String[] args) {
        promise17Yes();
        promise18Answers();
        promise19By();
        promise20Hold();
        promise21Order();
        promise21OrderRefused();
        promise22Blame();
        promise23Nothing();
        promise24Enough();
        promise24And26Slow();
        promise18To29Full();
        promise25Cost();
        promise26Fine();
        promise27Never();
        promise28Late();
        promise29Fits();
        promise30Halves();
        promise31Twin();
        promise32Nearest();
        promise33Move();
        promise33MoveOfManyGroups();
        CHECKS.end();
    }

    private static void promise17Yes() {
        AskedTheOtherWayAbout x = Checks.hundred();
        // rows: the QUESTIONS, one of each KIND; columns: 99 people as those of each GROUP
        int[][] yes = {
            {99, 0, 49}, {99, 39, 79}, {0, 99, 49}, {99, 69, 94}, {79, 0, 39}, {0, 59, 29}, {44, 44, 44},
        };
        for (int q = 0; q < 7; q++) {
            for (int g = 0; g < 3; g++) {
                due("17: yes(" + q + ", " + g + ", 99)", x.yes(q, g, 99), yes[q][g]);
                due("17: yes(" + q + ", " + g + ", 0)", x.yes(q, g, 0), 0);
            }
        }
        due("17: yes(0, 0, 999)", x.yes(0, 0, 999), 999);
        due("17: FORBID is cut by itself", x.yes(5, 2, 7), 1);
        x.group(1, 1, 7, 0, 0);
        x.group(1, 1, 8, 0, 0);
        due("17: ten tenths", x.yes(3, 3, 999), 999);
        due("17: ten tenths at most", x.yes(3, 4, 999), 999);
        due("17: EMPTY is cut twice", x.yes(6, 0, 7), 2);
        due("17: yes(7, 0, -1)", x.yes(7, 0, -1), -1);
        due("17: yes(0, 5, 0)", x.yes(0, 5, 0), -1);
        due("17: yes(-1, 0, 0)", x.yes(-1, 0, 0), -1);
        due("17: yes(0, -1, 0)", x.yes(0, -1, 0), -1);
        due("17: yes(0, 0, 1000)", x.yes(0, 0, 1000), -6);
        due("17: yes(0, 0, -1)", x.yes(0, 0, -1), -6);
        CHECKS.due("17: refusals", Checks.refusals(x), "4 0 0 0 0 2 0");
    }

    private static void promise18Answers() {
        AskedTheOtherWayAbout x = Checks.hundred();
        int[] answers = {0, 41, 49, 53, 54, 54, 54, 54, 54, 54};
        int[] left = {100, 45, 28, 18, 13, 9, 6, 5, 4, 4};
        for (int t = 0; t < 10; t++) {
            due("18: answers(" + t + ", 0)", x.answers(t, 0), answers[t]);
            due("18: answers(" + t + ", 1)", x.answers(t, 1), left[t]);
        }
        due("18: answers(10, 2)", x.answers(10, 2), -5);
        due("18: answers(0, -1)", x.answers(0, -1), -5);
        due("18: answers(10, 1)", x.answers(10, 1), -6);
        due("18: answers(-1, 0)", x.answers(-1, 0), -6);
        due("18: answers(MAX, 0)", x.answers(MAX, 0), -6);
        CHECKS.due("18: refusals", Checks.refusals(x), "0 0 0 0 2 3 0");
    }

    private static void promise19By() {
        AskedTheOtherWayAbout x = Checks.hundred();
        int[] share = {0, 390, 489, 528, 537, 537};
        int[] turned = {0, 609, 510, 471, 462, 462};
        for (int t = 0; t < 6; t++) {
            due("19: by(0, " + t + ", 0)", x.by(0, t, 0), share[t]);
            due("19: by(0, " + t + ", 1)", x.by(0, t, 1), share[t] - 570);
            due("19: by(2, " + t + ", 0)", x.by(2, t, 0), turned[t]);
            due("19: by(2, " + t + ", 1)", x.by(2, t, 1), turned[t] - 420);
        }
        due("19: KEEN BY 1", x.by(1, 1, 0), 634);
        due("19: KEEN BY 2", x.by(1, 2, 0), 693);
        due("19: BOXED together, not TRY by TRY", x.by(4, 2, 0), 1000 * 19 / 49);
        due("19: by(7, 10, 2)", x.by(7, 10, 2), -10001);
        due("19: by(-1, 0, 0)", x.by(-1, 0, 0), -10001);
        due("19: by(0, 10, 2)", x.by(0, 10, 2), -10005);
        due("19: by(0, 0, -1)", x.by(0, 0, -1), -10005);
        due("19: by(0, 10, 0)", x.by(0, 10, 0), -10006);
        due("19: by(0, -1, 1)", x.by(0, -1, 1), -10006);
        CHECKS.due("19: refusals", Checks.refusals(x), "2 0 0 0 2 2 0");
    }

    private static void promise20Hold() {
        AskedTheOtherWayAbout x = new AskedTheOtherWayAbout();
        due("20: of nobody", x.hold(), 0);
        x.group(2, 0, 0, 0, 0);
        due("20: all", x.hold(), 1000);
        x.group(1, 1, 0, 0, 0);
        due("20: two of three", x.hold(), 666);
        x.group(10, 2, 10, 10, 10);
        x.group(3, 0, 0, 0, 0);
        due("20: five of 16", x.hold(), 312);
    }

    private static void promise21Order() {
        AskedTheOtherWayAbout x = Checks.hundred();
        due("21: nobody", x.order(0, -1), 0);
        due("21: no BEARS", x.order(0x3F, -1), 0);
        for (int i = 0; i < 6; i++) {
            due("21: the first by numbers, " + i, x.order(0x7E, i), i + 1);
        }
        x.bears(0, 1, 9);
        x.bears(1, 0, -9);
        due("21: two alike", x.order(3, -1), 90);
        due("21: the first of them", x.order(3, 0), 0);
        x.bears(1, 0, 2);
        due("21: the other way about", x.order(3, -1), 20);
        due("21: its first", x.order(3, 0), 1);
        due("21: its second", x.order(3, 1), 0);
        x.bears(3, 0, -3);
        due("21: two that make up for one another", x.order(0x0B, -1), 10);
        due("21: first", x.order(0x0B, 0), 1);
        due("21: second", x.order(0x0B, 1), 3);
        due("21: third", x.order(0x0B, 2), 0);
        x.bears(5, 3, 9);
        x.bears(3, 5, 9);
        x.bears(4, 3, 9);
        due("21: held at 1000", x.order(0x38, -1), 90);
        due("21: by rows of numbers", x.order(0x38, 0), 3);
        x.bears(4, 5, -9);
        due("21: SHARE is held once", x.order(0x38, -1), 0);
        due("21: first then", x.order(0x38, 0), 3);
        due("21: second then", x.order(0x38, 1), 4);
        due("21: third then", x.order(0x38, 2), 5);
    }

    private static void promise21OrderRefused() {
        AskedTheOtherWayAbout x = Checks.hundred();
        due("21: order(3, 2)", x.order(3, 2), -5);
        due("21: order(3, -2)", x.order(3, -2), -5);
        due("21: order(0, 0)", x.order(0, 0), -5);
        due("21: no such i of no such set", x.order(0x80, 1), -5);
        due("21: order(0x80, -1)", x.order(0x80, -1), -6);
        due("21: order(0x80, 0)", x.order(0x80, 0), -6);
        due("21: seven", x.order(0x7F, -1), -6);
        due("21: seven's seventh", x.order(0x7F, 6), -6);
        due("21: order(MIN, -1)", x.order(MIN, -1), -6);
        due("21: order(-1, -1)", x.order(-1, -1), -6);
        due("21: order(MAX, MAX)", x.order(MAX, MAX), -5);
        CHECKS.due("21: refusals", Checks.refusals(x), "0 0 0 0 5 6 0");
    }

    private static void promise22Blame() {
        AskedTheOtherWayAbout x = new AskedTheOtherWayAbout();
        due("22: no QUESTIONS", x.blame(), -1);
        AskedTheOtherWayAbout y = Checks.hundred();
        due("22: none BEARS", y.blame(), -1);
        y.bears(6, 5, 1);
        due("22: the only one", y.blame(), 605);
        y.bears(0, 1, -1);
        due("22: the first of two", y.blame(), 1);
        y.bears(3, 2, -8);
        y.bears(3, 6, 8);
        due("22: whatever the sign", y.blame(), 302);
        y.bears(5, 0, 9);
        due("22: the most", y.blame(), 500);
        y.question(0, 0);
        due("22: of eight QUESTIONS", y.blame(), 500);
        CHECKS.due("22: refusals", Checks.refusals(y), "0 0 0 0 0 0 0");
    }

    private static void promise23Nothing() {
        AskedTheOtherWayAbout x = Checks.hundred();
        due("23: nothing(0, 2)", x.nothing(0, 2), 10);
        due("23: nothing(0, 1)", x.nothing(0, 1), -340);
        due("23: nothing(3, 3)", x.nothing(3, 3), -800);
        due("23: nothing(5, 5)", x.nothing(5, 5), 500);
        due("23: nothing(7, 0)", x.nothing(7, 0), -10001);
        due("23: nothing(0, -1)", x.nothing(0, -1), -10001);
        CHECKS.due("23: refusals", Checks.refusals(x), "2 0 0 0 0 0 0");
        AskedTheOtherWayAbout y = new AskedTheOtherWayAbout();
        y.question(0, 0);
        due("23: of nobody", y.nothing(0, 0), 1000);
    }

    private static void promise24Enough() {
        AskedTheOtherWayAbout x = Checks.hundred();
        due("24: enough(0, 1000)", x.enough(0, 1000), 0);
        due("24: enough(0, 570)", x.enough(0, 570), 0);
        due("24: enough(0, 569)", x.enough(0, 569), 1);
        due("24: enough(0, 180)", x.enough(0, 180), 1);
        due("24: enough(0, 50)", x.enough(0, 50), 3);
        due("24: enough(0, 33)", x.enough(0, 33), 4);
        due("24: enough(0, 32)", x.enough(0, 32), -1);
        due("24: OFF above 0", x.enough(2, 189), 1);
        due("24: enough(2, 89)", x.enough(2, 89), 3);
        due("24: enough(7, 1001)", x.enough(7, 1001), -11);
        due("24: enough(-1, 0)", x.enough(-1, 0), -11);
        due("24: enough(0, 1001)", x.enough(0, 1001), -16);
        due("24: enough(0, -1)", x.enough(0, -1), -16);
        CHECKS.due("24: refusals", Checks.refusals(x), "2 0 0 0 0 2 0");
        AskedTheOtherWayAbout y = new AskedTheOtherWayAbout();
        y.question(0, 0);
        due("24: of nobody", y.enough(0, 0), 0);
    }

    /** One GROUP is in at once, of the other one ever fewer are: 999 and 567 ANSWER BY 8 TRIES, 43 more BY 9. */
    private static AskedTheOtherWayAbout slow() {
        AskedTheOtherWayAbout x = new AskedTheOtherWayAbout();
        x.question(0, 0);
        x.group(999, 0, 0, 10, 10);
        x.group(999, 1, 0, 1, 10);
        return x;
    }

    private static void promise24And26Slow() {
        AskedTheOtherWayAbout x = slow();
        due("24: ANSWERS BY 8", x.answers(8, 0), 999 + 567);
        due("24: ANSWERS BY 9", x.answers(9, 0), 999 + 610);
        due("24: enough(0, 137)", x.enough(0, 137), 8);
        due("24: enough(0, 136)", x.enough(0, 136), 9);
        due("24: enough(0, 120)", x.enough(0, 120), 9);
        due("24: enough(0, 119)", x.enough(0, 119), -1);
        due("26: the last TRY", x.fine(0, MAX), 9);
        AskedTheOtherWayAbout y = new AskedTheOtherWayAbout();
        y.question(0, 0);
        y.group(9, 1, 0, 5, 5);
        due("26: none is as good as any", y.fine(0, MAX), 0);
    }

    private static void promise18To29Full() {
        AskedTheOtherWayAbout x = new AskedTheOtherWayAbout();
        for (int i = 0; i < 8; i++) {
            x.question(0, 0);
        }
        for (int g = 0; g < 10; g++) {
            x.group(10, g % 3, 0, 5, g == 0 || g == 9 ? 0 : 10);
        }
        due("18: of ten GROUPS", x.answers(1, 0), 40);
        due("18: LEFT of ten GROUPS", x.answers(1, 1), 50);
        due("19: of ten GROUPS", x.by(7, 1, 0), 1000 * (2 * 5 + 3 * 2) / 40);
        due("20: of ten GROUPS", x.hold(), 400);
        due("21: of eight QUESTIONS", x.order(0xFC, -1), 0);
        due("21: the last of them", x.order(0xFC, 5), 7);
        due("25: of ten GROUPS", x.cost(2), 5 * 150);
        due("27: the first and the last GROUP", x.never(), 0x201);
        due("28: of ten GROUPS", x.late(-1, 2), 16);
        due("29: of eight QUESTIONS", x.fits(550, 0), 255);
        due("31: of eight QUESTIONS", x.twin(7), 0);
    }

    private static void promise25Cost() {
        AskedTheOtherWayAbout x = Checks.hundred();
        int[] cost = {0, 500, 725, 865, 955, 1020, 1065, 1095, 1120, 1140};
        for (int t = 0; t < 10; t++) {
            due("25: cost(" + t + ")", x.cost(t), cost[t]);
        }
        due("25: cost(10)", x.cost(10), -6);
        due("25: cost(-1)", x.cost(-1), -6);
        x.ask(0, 99);
        due("25: dear", x.cost(2), 99 * 145);
        x.ask(0, 0);
        due("25: for nothing", x.cost(9), 0);
        CHECKS.due("25: refusals", Checks.refusals(x), "0 0 0 0 0 2 0");
    }

    private static void promise26Fine() {
        AskedTheOtherWayAbout x = Checks.hundred();
        due("26: fine(0, 0)", x.fine(0, 0), 0);
        due("26: fine(0, 499)", x.fine(0, 499), 0);
        due("26: fine(0, 500)", x.fine(0, 500), 1);
        due("26: fine(0, 864)", x.fine(0, 864), 2);
        due("26: fine(0, 865)", x.fine(0, 865), 3);
        due("26: fine(0, MAX)", x.fine(0, MAX), 4);
        due("26: fine(2, MAX)", x.fine(2, MAX), 4);
        due("26: fine(7, -1)", x.fine(7, -1), -1);
        due("26: fine(-1, 0)", x.fine(-1, 0), -1);
        due("26: fine(0, -1)", x.fine(0, -1), -6);
        due("26: fine(0, MIN)", x.fine(0, MIN), -6);
        x.ask(0, 0);
        due("26: for nothing", x.fine(0, 0), 4);
        CHECKS.due("26: refusals", Checks.refusals(x), "2 0 0 0 0 2 0");
    }

    private static void promise27Never() {
        AskedTheOtherWayAbout x = Checks.hundred();
        due("27: who will not", x.never(), 4);
        x.group(999, 0, 0, 0, 10);
        due("27: who is never in", x.never(), 12);
        x.group(9, 0, 0, 1, 10);
        due("27: by the numbers as they are cut", x.never(), 28);
        x.group(10, 0, 0, 1, 10);
        due("27: one is in", x.never(), 28);
        x.group(10, 0, 0, 9, 1);
        due("27: too few are in", x.never(), 28 + 64);
    }

    private static void promise28Late() {
        AskedTheOtherWayAbout x = Checks.hundred();
        int[] answers = {0, 41, 8, 4, 1, 0, 0, 0, 0, 0};
        for (int t = 1; t < 10; t++) {
            due("28: late(NONE, " + t + ")", x.late(-1, t), answers[t]);
        }
        due("28: late(0, 1)", x.late(0, 1), 390);
        due("28: late(0, 2)", x.late(0, 2), 1000);
        due("28: late(2, 1)", x.late(2, 1), 609);
        due("28: late(2, 2)", x.late(2, 2), 0);
        due("28: late(4, 3)", x.late(4, 3), 750);
        due("28: late(0, 5)", x.late(0, 5), 0);
        due("28: late(7, 0)", x.late(7, 0), -1);
        due("28: late(-2, 1)", x.late(-2, 1), -1);
        due("28: late(-1, 0)", x.late(-1, 0), -6);
        due("28: late(0, 10)", x.late(0, 10), -6);
        due("28: late(0, MIN)", x.late(0, MIN), -6);
        CHECKS.due("28: refusals", Checks.refusals(x), "2 0 0 0 0 3 0");
    }

    private static void promise29Fits() {
        AskedTheOtherWayAbout x = Checks.hundred();
        due("29: fits(440, 20)", x.fits(440, 20), 84);
        due("29: fits(440, 19)", x.fits(440, 19), 80);
        due("29: fits(900, 0)", x.fits(900, 0), 8);
        due("29: fits(899, 0)", x.fits(899, 0), 0);
        due("29: fits(1000, 1000)", x.fits(1000, 1000), 127);
        due("29: fits(0, 250)", x.fits(0, 250), 32);
        due("29: fits(1001, 0)", x.fits(1001, 0), -6);
        due("29: fits(0, 1001)", x.fits(0, 1001), -6);
        due("29: fits(-1, 0)", x.fits(-1, 0), -6);
        due("29: fits(0, -1)", x.fits(0, -1), -6);
        CHECKS.due("29: refusals", Checks.refusals(x), "0 0 0 0 0 4 0");
    }

    private static void promise30Halves() {
        AskedTheOtherWayAbout x = Checks.hundred();
        due("30: halves(0)", x.halves(0), 760);
        due("30: halves(1)", x.halves(1), 893);
        x.ask(1, 2);
        due("30: halves(0) less TURNED", x.halves(0), -240);
        due("30: halves(1) less TURNED", x.halves(1), -107);
        due("30: halves(2) less TURNED", x.halves(2), 226 - 1000);
        due("30: halves(7)", x.halves(7), -10001);
        due("30: halves(-1)", x.halves(-1), -10001);
        x.ask(1, 7);
        due("30: HALF's isn't there", x.halves(0), -10001);
        CHECKS.due("30: refusals", Checks.refusals(x), "3 0 0 0 0 0 0");
        AskedTheOtherWayAbout y = new AskedTheOtherWayAbout();
        y.question(0, 0);
        due("30: of nobody", y.halves(0), 0);
        y.group(5, 0, 0, 0, 0);
        due("30: no odd ones", y.halves(0), 1000);
    }

    private static void promise31Twin() {
        AskedTheOtherWayAbout x = Checks.hundred();
        due("31: twin(0)", x.twin(0), 6);
        due("31: twin(2)", x.twin(2), 0);
        due("31: twin(3)", x.twin(3), 5);
        due("31: twin(1)", x.twin(1), 5);
        due("31: twin(6)", x.twin(6), 0);
        due("31: twin(7)", x.twin(7), -11);
        due("31: twin(-1)", x.twin(-1), -11);
        CHECKS.due("31: refusals", Checks.refusals(x), "2 0 0 0 0 0 0");
        AskedTheOtherWayAbout y = new AskedTheOtherWayAbout();
        y.question(0, 0);
        due("31: there is no other", y.twin(0), -1);
        y.question(0, 0);
        y.question(0, 0);
        due("31: the first", y.twin(0), 1);
        due("31: the first of several", y.twin(2), 0);
        CHECKS.due("31: refusals", Checks.refusals(y), "0 0 0 0 0 0 0");
        AskedTheOtherWayAbout z = new AskedTheOtherWayAbout();
        int[] kinds = {0, 2, 1, 2};
        for (int kind : kinds) {
            z.question(kind, 0);
        }
        z.group(500, 0, 0, 0, 0);
        z.group(499, 1, 0, 0, 0);
        z.group(1, 2, 10, 0, 0);
        due("31: SHARE of 500", z.questionOf(0, 3), 500);
        due("31: SHARE of 499", z.questionOf(1, 3), 499);
        due("31: SHARE of 501", z.questionOf(2, 3), 501);
        due("31: one too few or too many", z.twin(0), 1);
        due("31: just 1000", z.twin(2), 1);
        due("31: just 1000 the other way about", z.twin(3), 2);
    }

    private static void promise32Nearest() {
        AskedTheOtherWayAbout x = new AskedTheOtherWayAbout();
        due("32: no QUESTIONS", x.nearest(), -5);
        CHECKS.due("32: refusals", Checks.refusals(x), "0 0 0 0 1 0 0");
        x.question(2, 0);
        due("32: the only one", x.nearest(), 0);
        x.question(0, 0);
        due("32: of nobody", x.nearest(), 1);
        x.question(0, 0);
        due("32: the first of several", x.nearest(), 1);
        due("32: nearest()", Checks.hundred().nearest(), 6);
        AskedTheOtherWayAbout y = new AskedTheOtherWayAbout();
        y.question(1, 0);
        y.question(4, 3);
        y.group(8, 0, 0, 0, 0);
        y.group(2, 1, 10, 0, 0);
        due("32: 200 too much", y.questionOf(0, 4), 200);
        due("32: 300 too few", y.questionOf(1, 4), -300);
        due("32: whatever the sign", y.nearest(), 0);
    }

    private static void promise33Move() {
        AskedTheOtherWayAbout x = Checks.hundred();
        due("33: move(0, 0)", x.move(0, 0), 0);
        due("33: move(0, 570)", x.move(0, 570), 0);
        due("33: move(0, 571)", x.move(0, 571), 1);
        due("33: move(0, 590)", x.move(0, 590), 3);
        due("33: move(0, 750)", x.move(0, 750), 35);
        due("33: move(0, 751)", x.move(0, 751), -1);
        due("33: move(2, 420)", x.move(2, 420), 0);
        due("33: move(2, 421)", x.move(2, 421), -1);
        due("33: move(7, 1001)", x.move(7, 1001), -11);
        due("33: move(-1, 0)", x.move(-1, 0), -11);
        due("33: move(0, 1001)", x.move(0, 1001), -16);
        due("33: move(0, -1)", x.move(0, -1), -16);
        due("33: nothing is changed", x.questionOf(0, 3), 570);
        CHECKS.due("33: refusals", Checks.refusals(x), "2 0 0 0 0 2 0");
        AskedTheOtherWayAbout y = new AskedTheOtherWayAbout();
        y.question(4, 5);
        due("33: of nobody", y.move(0, 0), 0);
        due("33: none to move", y.move(0, 1), -1);
        y.group(4, 2, 0, 0, 0);
        due("33: BOXED, each cut by itself", y.move(0, 251), 4);
        due("33: BOXED, none moved", y.move(0, 250), 0);
    }

    private static void promise33MoveOfManyGroups() {
        AskedTheOtherWayAbout x = new AskedTheOtherWayAbout();
        x.question(0, 0);
        x.question(1, 0);
        x.question(6, 2);
        x.group(3, 2, 10, 0, 0);
        x.group(5, 1, 0, 0, 0);
        for (int g = 2; g < 10; g++) {
            x.group(4, 2, 0, 0, 0);
        }
        // of 40 people: 1 + 8 * 2 say yes, then 3 + 8 * 2, then two more by each GROUP
        due("33: at first", x.questionOf(0, 3), 425);
        due("33: the first GROUP's first", x.move(0, 426), 1);
        due("33: the first GROUP's last", x.move(0, 475), 3);
        due("33: the next GROUP's first that counts", x.move(0, 476), 3 + 2);
        due("33: the last of all", x.move(0, 875), 3 + 32);
        due("33: not with all", x.move(0, 876), -1);
        due("33: glad ones count at first", x.move(1, 475), 0);
        due("33: and the next ones then", x.move(1, 476), 3 + 2);
    }
}
