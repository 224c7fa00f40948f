import java.util.ArrayList;
import java.util.List;
import java.util.Random;

/** Runs of 512 drawn calls (always the same ones): each answer is to be the Model's, and nothing may throw. */
public final class RandomRunsTest {
    private static final int RUNS = 1500;
    private static final String[] NAMES = {
        "row", "set", "copy", "element", "show", "holds", "says", "question", "group", "groupOf", "questionOf", "ask",
        "bears", "town", "fault", "yes", "answers", "by", "hold", "order", "blame", "nothing", "enough", "cost", "fine",
        "never", "late", "fits", "halves", "twin", "nearest", "move", "judge", "round", "change", "doors", "seed",
        "act", "trace", "image", "restore", "status",
    };
    private static final String OF_A_ROUND = "sin";
    /** What each argument is drawn from, a letter each; see drawn(). */
    private static final String[] ARGUMENTS = {
        "shn", "sil", "ssiii", "si", "sq", "s", "sk", "kt", "cvttt", "gw", "qw", "bp",
        "qqn", "s", "", "qgc", "tb", "qtb", "", "oi", "", "qq", "qm", "t", "qd",
        "", "qt", "mm", "q", "q", "", "qm", "si", OF_A_ROUND, "gvc", "d", "l",
        "qbl", "i", "", "", "w",
    };
    private static final int TOWN = 13;
    private static final int EXTREMES = 60;

    private final Random random;
    private final Model model = new Model();
    private final AskedTheOtherWayAbout x = new AskedTheOtherWayAbout();
    private final List<String> calls = new ArrayList<>();
    private int latestShelf;
    private int latestLength;

    private RandomRunsTest(long seed) {
        random = new Random(seed);
    }

    public static void main(String[] args) {
        int wrong = 0;
        for (int run = 0; run < RUNS && wrong == 0; run++) {
            RandomRunsTest test = new RandomRunsTest(run);
            if (!test.holds(run % 5 == 0)) wrong++;
        }
        System.out.println(RUNS + " runs of drawn calls, " + wrong + " not as the Model's");
        if (wrong != 0) System.exit(1);
    }

    private boolean holds(boolean wild) {
        int[] likely = new int[NAMES.length];
        for (int op = 0; op < likely.length; op++) {
            likely[op] = random.nextInt(8);
        }
        for (int made = 0; made < 512; ) {
            int op = random.nextInt(NAMES.length);
            if (random.nextInt(8) > likely[op]) continue;
            if (op == TOWN && random.nextInt(3) > 0 || op == 32 || op == 33) {
                if (!writeRow(op == TOWN ? text() : told())) return false;
                made += 30;
            }
            if (!isSame(op, drawnAll(ARGUMENTS[op], wild))) return false;
            made++;
        }
        return true;
    }

    private long[] drawnAll(String from, boolean wild) {
        if (from.equals(OF_A_ROUND) && random.nextInt(3) > 0) {
            int told = random.nextInt(3) > 0 ? latestLength : random.nextInt(latestLength + 1);
            return new long[] {latestShelf, told, random.nextInt(told + 2) - 1};
        }
        long[] arguments = new long[from.length()];
        for (int i = 0; i < arguments.length; i++) {
            arguments[i] = drawn(from.charAt(i));
            if (wild && random.nextInt(EXTREMES) == 0) arguments[i] = extreme();
        }
        return arguments;
    }

    private long extreme() {
        int[] extremes = {Integer.MIN_VALUE, Integer.MAX_VALUE, -1, -2, 160, 161, 1000, Integer.MIN_VALUE + 1};
        return extremes[random.nextInt(extremes.length)];
    }

    private long drawn(char from) {
        switch (from) {
            case 's': return random.nextInt(10) == 0 ? random.nextInt(10) - 1 : random.nextInt(4);
            case 'h': return random.nextInt(12) == 0 ? random.nextInt(6) - 1 : random.nextInt(4);
            case 'n': return random.nextInt(24) - 11;
            case 'i': return random.nextInt(24) - 2;
            case 'l': return random.nextInt(4) == 0 ? random.nextInt() : random.nextInt(12) - 2;
            case 'q': return random.nextInt(10) - (random.nextInt(6) == 0 ? 1 : 0);
            case 'g': return random.nextInt(12) - (random.nextInt(6) == 0 ? 1 : 0);
            case 'k': return random.nextInt(8) - (random.nextInt(6) == 0 ? 1 : 0);
            case 't': return random.nextInt(12) - (random.nextInt(6) == 0 ? 1 : 0);
            case 'v': return random.nextInt(4) - (random.nextInt(6) == 0 ? 1 : 0);
            case 'w': return random.nextInt(20) - 1;
            case 'b': return random.nextInt(4) - (random.nextInt(6) == 0 ? 1 : 0);
            case 'c': return random.nextInt(3) == 0 ? random.nextInt(1003) - 1 : random.nextInt(30);
            case 'p': return random.nextInt(3) == 0 ? random.nextInt(104) - 2 : random.nextInt(10);
            case 'm': return random.nextInt(1004) - 2;
            case 'd': return random.nextInt(3) == 0 ? random.nextInt(40000) : random.nextInt(203) - 1;
            case 'o': return random.nextInt(4) == 0 ? random.nextInt(256) : 1 << random.nextInt(8) | random.nextInt(16);
            default: throw new IllegalArgumentException("no such letter");
        }
    }

    private int[] told() {
        int[] row = new int[random.nextInt(10) + (random.nextInt(9) == 0 ? 14 : 0)];
        int first = random.nextInt(8);
        for (int i = 0; i < row.length; i++) {
            row[i] = random.nextInt(9) == 0 ? random.nextInt(10) - 1 : (first + 3 * i) % 8;
        }
        return row;
    }

    private int[] text() {
        StringBuilder text = new StringBuilder();
        int items = 1 + random.nextInt(6);
        for (int i = 0; i < items; i++) {
            if (i > 0) text.append(';');
            text.append(item());
        }
        int spoilt = random.nextInt(4);
        if (spoilt == 0) text.setLength(random.nextInt(text.length() + 1));
        if (spoilt == 1) text.setCharAt(random.nextInt(text.length()), "0123 ;gqbaphx9".charAt(random.nextInt(14)));
        if (spoilt == 2 && random.nextInt(2) == 0) text.insert(random.nextInt(text.length() + 1), random.nextInt(10));
        if (text.length() > 160) text.setLength(160);
        int[] letters = new int[text.length()];
        for (int i = 0; i < letters.length; i++) {
            letters[i] = text.charAt(i);
        }
        return letters;
    }

    private String item() {
        switch (random.nextInt(6)) {
            case 0:
                return "group " + (1 + random.nextInt(400)) + " " + random.nextInt(3) + " " + random.nextInt(11) + " "
                        + random.nextInt(11) + " " + random.nextInt(11);
            case 1:
                return "question " + random.nextInt(7) + " " + random.nextInt(10);
            case 2:
                return "bears " + random.nextInt(5) + " " + random.nextInt(5) + " " + random.nextInt(10);
            case 3:
                return "against 00" + random.nextInt(4) + " 0" + random.nextInt(5) + " " + random.nextInt(11);
            case 4:
                return "penny " + random.nextInt(104);
            default:
                return "half " + random.nextInt(9);
        }
    }

    /** Puts a ROW into SHELVES 0 to 3, so that most calls to come find it. */
    private boolean writeRow(int[] elements) {
        int s = random.nextInt(4);
        latestShelf = s;
        latestLength = elements.length;
        if (!isSame(0, new long[] {s, random.nextInt(4), elements.length})) return false;
        for (int i = 0; i < elements.length; i++) {
            long upper = (long) random.nextInt(3) << 32;
            if (!isSame(1, new long[] {s, i, upper + elements[i]})) return false;
        }
        for (int other = 0; other < 4; other++) {
            long sort = x.holds(s) - 100;
            if (other != s && random.nextInt(2) == 0) {
                if (!isSame(0, new long[] {other, sort, elements.length})) return false;
                if (!isSame(2, new long[] {s, other, 0, 0, elements.length})) return false;
            }
        }
        return true;
    }

    private boolean isSame(int op, long[] a) {
        StringBuilder call = new StringBuilder(NAMES[op]).append('(');
        for (int i = 0; i < a.length; i++) {
            call.append(i > 0 ? ", " : "").append(a[i]);
        }
        long got = made(op, a);
        long due = model.call(op, a);
        calls.add(call.append(") -> ").append(got).toString());
        if (got == due) return true;
        for (String line : calls) {
            System.out.println(line);
        }
        System.out.println("the Model's answer to the last call: " + due);
        return false;
    }

    private long made(int op, long[] a) {
        int p = a.length > 0 ? (int) a[0] : 0;
        int q = a.length > 1 ? (int) a[1] : 0;
        int r = a.length > 2 ? (int) a[2] : 0;
        switch (op) {
            case 0: return x.row(p, q, r);
            case 1: return x.set(p, q, a[2]);
            case 2: return x.copy(p, q, r, (int) a[3], (int) a[4]);
            case 3: return x.element(p, q);
            case 4: return x.show(p, q);
            case 5: return x.holds(p);
            case 6: return x.says(p, q);
            case 7: return x.question(p, q);
            case 8: return x.group(p, q, r, (int) a[3], (int) a[4]);
            case 9: return x.groupOf(p, q);
            case 10: return x.questionOf(p, q);
            case 11: return x.ask(p, q);
            case 12: return x.bears(p, q, r);
            case 13: return x.town(p);
            case 14: return x.fault();
            case 15: return x.yes(p, q, r);
            case 16: return x.answers(p, q);
            case 17: return x.by(p, q, r);
            case 18: return x.hold();
            case 19: return x.order(p, q);
            case 20: return x.blame();
            case 21: return x.nothing(p, q);
            case 22: return x.enough(p, q);
            case 23: return x.cost(p);
            case 24: return x.fine(p, q);
            case 25: return x.never();
            case 26: return x.late(p, q);
            case 27: return x.fits(p, q);
            case 28: return x.halves(p);
            case 29: return x.twin(p);
            case 30: return x.nearest();
            case 31: return x.move(p, q);
            case 32: return x.judge(p, q);
            case 33: return x.round(p, q, r);
            case 34: return x.change(p, q, r);
            case 35: return x.doors(p);
            case 36: return x.seed(p);
            case 37: return x.act(p, q, r);
            case 38: return x.trace(p);
            case 39: return x.image();
            case 40: return x.restore();
            default: return x.status(p);
        }
    }
}
