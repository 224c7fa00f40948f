/** Promises 9 to 16: what a TOWN is made of, and TOWNS read from texts. */
public final class TownTest {
    private static final int MAX = Integer.MAX_VALUE;
    private static final int MIN = Integer.MIN_VALUE;
    private static final Checks CHECKS = new Checks();

    private static void due(String call, long got, long want) {
        CHECKS.due(call, got, want);
    }

    public static void main(String[] args) {
        promise9Question();
        promise10Group();
        promise11QuestionOf();
        promise12GroupOf();
        promise13Bears();
        promise14Ask();
        promise15Town();
        promise15TownOverWhatThereIs();
        promise15TownRefused();
        promise16Fault();
        promise16FaultOfNumbers();
        promise16FaultOfRoom();
        promise16FaultOfElements();
        CHECKS.end();
    }

    private static void promise9Question() {
        AskedTheOtherWayAbout x = new AskedTheOtherWayAbout();
        due("9: question(6, 9)", x.question(6, 9), 0);
        due("9: question(7, 10)", x.question(7, 10), -1);
        due("9: question(-1, 0)", x.question(-1, 0), -1);
        due("9: question(0, 10)", x.question(0, 10), -6);
        due("9: question(0, -1)", x.question(0, -1), -6);
        for (int q = 1; q < 8; q++) {
            due("9: question " + q, x.question(q - 1, q), q);
        }
        due("9: question(0, 0) beyond", x.question(0, 0), -7);
        due("9: question(0, 10) beyond", x.question(0, 10), -6);
        due("9: question(9, 0) beyond", x.question(9, 0), -1);
        due("9: status(0)", x.status(0), 8);
        due("9: KIND", x.questionOf(0, 0), 6);
        due("9: a", x.questionOf(0, 1), 9);
        due("9: KIND", x.questionOf(7, 0), 6);
        due("9: a", x.questionOf(7, 1), 7);
        CHECKS.due("9: refusals", Checks.refusals(x), "3 0 0 0 0 3 1");
    }

    private static void promise10Group() {
        AskedTheOtherWayAbout x = new AskedTheOtherWayAbout();
        due("10: the least", x.group(1, 0, 0, 0, 0), 0);
        due("10: the most", x.group(999, 2, 10, 10, 10), 1);
        int[][] wrong = {
            {0, 0, 0, 0, 0}, {1000, 0, 0, 0, 0}, {-1, 0, 0, 0, 0}, {1, 3, 0, 0, 0}, {1, -1, 0, 0, 0},
            {1, 0, 11, 0, 0}, {1, 0, -1, 0, 0}, {1, 0, 0, 11, 0}, {1, 0, 0, -1, 0}, {1, 0, 0, 0, 11},
            {1, 0, 0, 0, -1}, {MAX, 0, 0, 0, 0}, {MIN, 0, 0, 0, 0},
        };
        for (int[] w : wrong) {
            due("10: a wrong group", x.group(w[0], w[1], w[2], w[3], w[4]), -6);
        }
        for (int g = 2; g < 10; g++) {
            due("10: group " + g, x.group(g, 1, 2, 3, 4), g);
        }
        due("10: one more", x.group(1, 0, 0, 0, 0), -7);
        due("10: a wrong one more", x.group(0, 0, 0, 0, 0), -6);
        due("10: status(1)", x.status(1), 10);
        due("10: status(2)", x.status(2), 1000 + 44);
        CHECKS.due("10: refusals", Checks.refusals(x), "0 0 0 0 0 14 1");
    }

    private static void promise11QuestionOf() {
        AskedTheOtherWayAbout x = Checks.hundred();
        int[] a = {0, 0, 0, 3, 2, 4, 1};
        int[] all = {57, 77, 42, 90, 45, 25, 43};
        int[] wrong = {170, 370, 180, 500, 50, 350, 30};
        for (int q = 0; q < 7; q++) {
            due("11: KIND of " + q, x.questionOf(q, 0), q);
            due("11: a of " + q, x.questionOf(q, 1), a[q]);
            due("11: ALL of " + q, x.questionOf(q, 2), all[q]);
            due("11: SHARE of " + q, x.questionOf(q, 3), 10 * all[q]);
            due("11: WRONG of " + q, x.questionOf(q, 4), wrong[q]);
        }
        due("11: questionOf(7, 0)", x.questionOf(7, 0), -10005);
        due("11: questionOf(-1, 0)", x.questionOf(-1, 0), -10005);
        due("11: questionOf(0, 5)", x.questionOf(0, 5), -10005);
        due("11: questionOf(0, -1)", x.questionOf(0, -1), -10005);
        due("11: questionOf(MIN, MAX)", x.questionOf(MIN, MAX), -10005);
        CHECKS.due("11: refusals", Checks.refusals(x), "0 0 0 0 5 0 0");
        AskedTheOtherWayAbout y = new AskedTheOtherWayAbout();
        y.question(0, 0);
        y.question(2, 0);
        due("11: SHARE of nobody", y.questionOf(0, 3), 0);
        due("11: WRONG of nobody", y.questionOf(0, 4), 0);
        due("11: WRONG of nobody, TURNED", y.questionOf(1, 4), 1000);
        y.group(3, 0, 0, 0, 0);
        y.group(4, 1, 0, 0, 0);
        due("11: SHARE is cut", y.questionOf(0, 3), 428);
        due("11: SHARE is cut, TURNED", y.questionOf(1, 3), 571);
        due("11: WRONG below 0", y.group(999, 2, 0, 0, 0), 2);
        due("11: WRONG of TURNED", y.questionOf(1, 4), 1000 - 1000 * (4 + 499) / 1006 - 2);
    }

    private static void promise12GroupOf() {
        AskedTheOtherWayAbout x = new AskedTheOtherWayAbout();
        x.group(7, 2, 5, 4, 3);
        x.group(8, 1, 9, 10, 6);
        int[] of0 = {7, 2, 5, 4, 3};
        int[] of1 = {8, 1, 9, 10, 6};
        for (int what = 0; what < 5; what++) {
            due("12: groupOf(0, " + what + ")", x.groupOf(0, what), of0[what]);
            due("12: groupOf(1, " + what + ")", x.groupOf(1, what), of1[what]);
        }
        due("12: groupOf(2, 0)", x.groupOf(2, 0), -5);
        due("12: groupOf(-1, 0)", x.groupOf(-1, 0), -5);
        due("12: groupOf(0, 5)", x.groupOf(0, 5), -5);
        due("12: groupOf(0, -1)", x.groupOf(0, -1), -5);
        CHECKS.due("12: refusals", Checks.refusals(x), "0 0 0 0 4 0 0");
    }

    private static void promise13Bears() {
        AskedTheOtherWayAbout x = Checks.hundred();
        due("13: bears(0, 1, 9)", x.bears(0, 1, 9), 0);
        due("13: bears(0, 1, -9)", x.bears(0, 1, -9), 9);
        due("13: bears(0, 1, 0)", x.bears(0, 1, 0), -9);
        due("13: bears(1, 0, 3)", x.bears(1, 0, 3), 0);
        due("13: bears(6, 0, 1)", x.bears(6, 0, 1), 0);
        due("13: bears(0, 7, 10)", x.bears(0, 7, 10), -10001);
        due("13: bears(-1, 0, 0)", x.bears(-1, 0, 0), -10001);
        due("13: bears(7, 7, 0)", x.bears(7, 7, 0), -10001);
        due("13: bears(2, 2, 0)", x.bears(2, 2, 0), -10006);
        due("13: bears(1, 0, 10)", x.bears(1, 0, 10), -10006);
        due("13: bears(1, 0, -10)", x.bears(1, 0, -10), -10006);
        due("13: bears(1, 0, 0) then", x.bears(1, 0, 0), 3);
        CHECKS.due("13: refusals", Checks.refusals(x), "3 0 0 0 0 3 0");
    }

    private static void promise14Ask() {
        AskedTheOtherWayAbout x = new AskedTheOtherWayAbout();
        due("14: ask(0, 99)", x.ask(0, 99), 5);
        due("14: ask(0, 0)", x.ask(0, 0), 99);
        due("14: ask(0, 100)", x.ask(0, 100), -6);
        due("14: ask(0, -1)", x.ask(0, -1), -6);
        due("14: ask(1, 7)", x.ask(1, 7), 0);
        due("14: ask(1, 0)", x.ask(1, 0), 7);
        due("14: ask(1, 3)", x.ask(1, 3), 0);
        due("14: ask(1, 8)", x.ask(1, 8), -6);
        due("14: ask(1, -1)", x.ask(1, -1), -6);
        due("14: ask(2, 0)", x.ask(2, 0), -6);
        due("14: ask(-1, 0)", x.ask(-1, 0), -6);
        due("14: status(3)", x.status(3), 0);
        due("14: status(4)", x.status(4), 3);
        CHECKS.due("14: refusals", Checks.refusals(x), "0 0 0 0 0 6 0");
    }

    private static void promise15Town() {
        AskedTheOtherWayAbout x = new AskedTheOtherWayAbout();
        String text = "question 3 9;group 999 2 10 0 1;question 06 001;bears 0 1 9;against 1 0 4;penny 99;half 7";
        due("15: town(..)", Checks.tell(x, text), 7);
        due("15: fault()", x.fault(), -1);
        due("15: KIND", x.questionOf(0, 0), 3);
        due("15: a", x.questionOf(0, 1), 9);
        due("15: KIND", x.questionOf(1, 0), 6);
        due("15: a", x.questionOf(1, 1), 1);
        int[] numbers = {999, 2, 10, 0, 1};
        for (int what = 0; what < 5; what++) {
            due("15: groupOf(0, " + what + ")", x.groupOf(0, what), numbers[what]);
        }
        due("15: bears(0, 1, 0)", x.bears(0, 1, 0), 9);
        due("15: bears(1, 0, 0)", x.bears(1, 0, 0), -4);
        due("15: status(3)", x.status(3), 99);
        due("15: status(4)", x.status(4), 7);
        due("15: a text of one ITEM", Checks.tell(x, "penny 000"), 1);
        due("15: status(3)", x.status(3), 0);
    }

    private static void promise15TownOverWhatThereIs() {
        AskedTheOtherWayAbout x = Checks.hundred();
        x.bears(0, 6, 5);
        x.seed(77);
        due("15: one more each", Checks.tell(x, "question 1 2;group 1 0 1 2 3;against 0 7 9;bears 7 6 0"), 4);
        due("15: status(0)", x.status(0), 8);
        due("15: status(1)", x.status(1), 4);
        due("15: status(7)", x.status(7), 77);
        due("15: what was", x.bears(0, 6, 0), 5);
        due("15: what came", x.bears(0, 7, 0), -9);
        due("15: over what came", Checks.tell(x, "bears 0 7 3;against 0 7 2;bears 0 6 1"), 3);
        due("15: the latest holds", x.bears(0, 7, 0), -2);
        due("15: town() with a FAULT behind", Checks.tell(x, "group 5 0 0 0 0;penny 9;half 3;bears 0 1 4;x"), -6);
        due("15: no GROUP of it", x.status(1), 4);
        due("15: no PENNY of it", x.status(3), 5);
        due("15: no HALF of it", x.status(4), 0);
        due("15: no BEARS of it", x.bears(0, 1, 0), 0);
    }

    private static void promise15TownRefused() {
        AskedTheOtherWayAbout x = Checks.hundred();
        Checks.tell(x, "penny x");
        x.show(0, 0);
        due("15: town(8)", x.town(8), -1);
        due("15: town(-1)", x.town(-1), -1);
        due("15: town() of a QUESTION", x.town(0), -2);
        due("15: town() of NOTHING", x.town(1), -3);
        due("15: these leave the FAULT", x.fault(), 6);
        CHECKS.due("15: refusals", Checks.refusals(x), "2 1 1 0 0 1 0");
        due("15: a right one", Checks.tell(x, "half 2"), 1);
        due("15: takes it away", x.fault(), -1);
    }

    private static void faultDue(AskedTheOtherWayAbout x, String text, int fault) {
        int before = x.status(16);
        due("16: town of '" + text + "'", Checks.tell(x, text), -6);
        due("16: fault of '" + text + "'", x.fault(), fault);
        due("16: counted", x.status(16), before + 1);
    }

    private static void promise16Fault() {
        AskedTheOtherWayAbout x = Checks.hundred();
        faultDue(x, "", 0);
        faultDue(x, ";", 0);
        faultDue(x, " penny 5", 0);
        faultDue(x, "Penny 5", 0);
        faultDue(x, "p", 1);
        faultDue(x, "pen", 3);
        faultDue(x, "penn9", 4);
        faultDue(x, "pexny 5", 2);
        faultDue(x, "penny", 5);
        faultDue(x, "penny;", 5);
        faultDue(x, "penny5", 5);
        faultDue(x, "penny ", 6);
        faultDue(x, "penny  5", 6);
        faultDue(x, "penny -5", 6);
        faultDue(x, "penny 5 ", 7);
        faultDue(x, "penny 5;", 8);
        faultDue(x, "penny 5; half 1", 8);
        faultDue(x, "penny 5;;half 1", 8);
        faultDue(x, "penny 5;q", 9);
        faultDue(x, "penny 5 half 1", 7);
        faultDue(x, "group 5 0 0 0", 13);
        faultDue(x, "group 5 0 0 0 ", 14);
        faultDue(x, "group 5 0 0 0 0 0", 15);
        faultDue(x, "question 0", 10);
        faultDue(x, "bears 0 1", 9);
        faultDue(x, "against 0,1", 9);
        faultDue(x, "agains", 6);
        faultDue(x, "bear 0 1 2", 4);
        faultDue(x, "hal 0", 3);
        due("16: a right one", Checks.tell(x, "penny 5"), 1);
        due("16: fault of a right one", x.fault(), -1);
    }

    private static void promise16FaultOfNumbers() {
        AskedTheOtherWayAbout x = Checks.hundred();
        faultDue(x, "penny 100", 6);
        faultDue(x, "penny 1000", 6);
        faultDue(x, "penny 0099", 9);
        faultDue(x, "half 8", 5);
        faultDue(x, "half 0007", 8);
        faultDue(x, "half 10x", 5);
        faultDue(x, "half 7x", 6);
        faultDue(x, "group 0", 6);
        faultDue(x, "group 0 0 0 0 0", 6);
        faultDue(x, "group 000 0 0 0 0", 6);
        faultDue(x, "group 1000 0 0 0 0", 9);
        faultDue(x, "group 1 3 0 0 0", 8);
        faultDue(x, "group 1 0 11 0 0", 10);
        faultDue(x, "group 1 0 0 11 0", 12);
        faultDue(x, "group 1 0 0 0 11", 14);
        faultDue(x, "question 7 0", 9);
        faultDue(x, "question 0 10", 11);
        faultDue(x, "bears 7 0 0", 6);
        faultDue(x, "bears 0 7 0", 8);
        faultDue(x, "bears 0 1 10", 10);
        faultDue(x, "bears 3 03 0", 8);
        faultDue(x, "bears 3 03", 8);
        faultDue(x, "against 3 3 99", 10);
        faultDue(x, "against 1 2 10", 12);
        faultDue(x, "bears 0 7 0;question 0 0", 8);
        due("16: the QUESTION told ahead", Checks.tell(x, "question 0 0;bears 0 7 0"), 2);
        AskedTheOtherWayAbout y = new AskedTheOtherWayAbout();
        faultDue(y, "bears 0 1 0", 6);
        faultDue(y, "question 0 0;bears 0 1 0", 21);
        faultDue(y, "question 0 0;bears 0 0 0", 21);
    }

    private static void promise16FaultOfRoom() {
        AskedTheOtherWayAbout x = Checks.hundred();
        faultDue(x, "question 0 0;question 0 0", 13);
        x.question(0, 0);
        faultDue(x, "question 0 0", 0);
        faultDue(x, "question", 0);
        faultDue(x, "questionx", 0);
        faultDue(x, "questio", 7);
        faultDue(x, "questiox", 7);
        due("16: others are told", Checks.tell(x, "penny 9;half 1;bears 0 7 1"), 3);
        for (int g = 3; g < 9; g++) {
            x.group(1, 0, 0, 0, 0);
        }
        faultDue(x, "group 1 0 0 0 0;group", 16);
        faultDue(x, "group 1 0 0 0 0;grou", 20);
        due("16: the last GROUP", Checks.tell(x, "group 1 0 0 0 0"), 1);
        faultDue(x, "penny 1;group", 8);
        due("16: status(1)", x.status(1), 10);
    }

    private static void promise16FaultOfElements() {
        AskedTheOtherWayAbout x = Checks.hundred();
        String text = "penny 7";
        for (int sort = 0; sort < 4; sort++) {
            x.row(0, sort, 7);
            for (int i = 0; i < 7; i++) {
                x.set(0, i, text.charAt(i) + (sort == 3 ? 5L << 32 : 0));
            }
            due("16: town() of SORT " + sort, x.town(0), 1);
            x.set(0, 2, -1);
            due("16: -1 in SORT " + sort, x.town(0), -6);
            due("16: fault of SORT " + sort, x.fault(), 2);
            x.set(0, 2, 'n' + 256);
            due("16: another n in SORT " + sort, x.town(0), sort == 0 ? 1 : -6);
        }
        x.row(1, 2, 8);
        x.copy(0, 1, 0, 0, 0);
        for (int i = 0; i < 7; i++) {
            x.set(1, i, text.charAt(i));
        }
        due("16: an element 0 behind", x.town(1), -6);
        due("16: fault()", x.fault(), 7);
    }
}
