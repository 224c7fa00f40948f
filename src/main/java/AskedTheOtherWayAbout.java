/** Groups of people, the questions that they are asked, and what comes of it; DOC.md says what each call does. */
public final class AskedTheOtherWayAbout {
    public static final int NONE = -1;

    private static final int NOBODY = -1;
    private static final int OTHER = -2;
    private static final int NOTHING = -3;
    private static final int BELOW = -4;
    private static final int BEYOND = -5;
    private static final int WRONG = -6;
    private static final int ROOM = -7;
    private static final int FITTING = 0;
    private static final int MORE_THAN_ANY = 1000000;

    /** What is put to a refusal where the call may tell numbers below 0. */
    private static final int FAR_BELOW = -10000;
    /** What is put to a refusal where the call may tell NONE. */
    private static final int BELOW_NONE = -10;

    private static final int QUESTION = 0;
    private static final int KEEN = 1;
    private static final int TURNED = 2;
    private static final int LED = 3;
    private static final int BOXED = 4;
    private static final int FORBID = 5;
    private static final int EMPTY = 6;
    /** The KIND above each KIND. */
    private static final int[] ABOVE = {NONE, QUESTION, QUESTION, KEEN, QUESTION, TURNED, BOXED};

    private static final int YES = 0;
    private static final int NO = 1;
    private static final int NEITHER = 2;

    private static final int MOST_QUESTIONS = 8;
    private static final int MOST_GROUPS = 10;
    private static final int MOST_COUNT = 999;
    private static final int MOST_A = 9;
    private static final int MOST_BEARING = 9;
    private static final int MOST_PENNY = 99;
    private static final int MOST_HALF = 7;
    private static final int MOST_TRIES = 9;
    private static final int MOST_IN_ORDER = 6;
    private static final int MOST_TOLD = 20;
    private static final int MOST_DOORS = 200;
    private static final int SHELF_COUNT = 8;
    private static final int MOST_ELEMENTS = 160;
    private static final int LONGS = 3;
    private static final int ROW_MARK = 100;
    private static final int ALL_GROUPS = 0x3FF;
    private static final int EVEN_GROUPS = 0x155;
    private static final int ODD_GROUPS = 0x2AA;

    private final Town town = new Town();
    private final Town image = new Town();
    private boolean imageTaken;
    private final Orders orders = new Orders();
    private final Shelves shelves = new Shelves();
    private final TownText townText = new TownText();
    private final Acts acts = new Acts();
    private final int[] refusals = new int[8];
    private int latestFault = NONE;

    public AskedTheOtherWayAbout() {
    }

    public int row(int s, int sort, int n) {
        if (!isShelf(s)) return refuse(NOBODY);
        if (n < 0) return refuse(BELOW);
        if (!isWithin(sort, 0, LONGS)) return refuse(WRONG);
        if (n > MOST_ELEMENTS) return refuse(ROOM);
        shelves.putRow(s, sort, n);
        return 1;
    }

    public int set(int s, int i, long v) {
        int refusal = shelves.refusalOfRow(s);
        if (refusal != FITTING) return refuse(refusal);
        if (!shelves.has(s, i, 1)) return refuse(BEYOND);
        shelves.putElement(s, i, v);
        return 1;
    }

    public int copy(int p, int q, int i, int j, int n) {
        int refusal = shelves.refusalOfRows(p, q);
        if (refusal != FITTING) return refuse(refusal);
        if (n < 0) return refuse(BELOW);
        if (!shelves.has(p, i, n) || !shelves.has(q, j, n)) return refuse(BEYOND);
        shelves.copyElements(p, q, i, j, n);
        return 1;
    }

    public long element(int s, int i) {
        if (shelves.refusalOfRow(s) != FITTING || !shelves.has(s, i, 1)) return 0;
        return shelves.longAt(s, i);
    }

    public int show(int s, int question) {
        if (!isShelf(s)) return refuse(NOBODY);
        if (question != NONE && !town.hasQuestion(question)) return refuse(NOBODY);
        shelves.putQuestion(s, question);
        return question == NONE ? 0 : 1;
    }

    public int holds(int s) {
        return isShelf(s) ? shelves.heldBy(s) : NONE;
    }

    public int says(int s, int kind) {
        if (!isShelf(s) || !isKind(kind)) return refuse(NOBODY);
        int question = shelves.heldBy(s);
        if (question == NONE) return refuse(NOTHING);
        if (!town.hasQuestion(question) || !isOrUnder(town.kindOf(question), kind)) return refuse(OTHER);
        switch (kind) {
            case QUESTION:
                return town.shareOf(question, ALL_GROUPS);
            case BOXED:
            case EMPTY:
                return town.yesAs(question, YES, 0, 100);
            default:
                return town.yesAs(question, NO, 5, 100);
        }
    }

    public int question(int kind, int a) {
        if (!isKind(kind)) return refuse(NOBODY);
        if (!isWithin(a, 0, MOST_A)) return refuse(WRONG);
        if (!town.hasRoomForQuestion()) return refuse(ROOM);
        return town.addQuestion(kind, a);
    }

    public int group(int count, int view, int glad, int home, int will) {
        boolean fitting = isWithin(count, 1, MOST_COUNT) && isWithin(view, YES, NEITHER)
                && isWithin(glad, 0, 10) && isWithin(home, 0, 10) && isWithin(will, 0, 10);
        if (!fitting) return refuse(WRONG);
        if (!town.hasRoomForGroup()) return refuse(ROOM);
        return town.addGroup(count, view, glad, home, will);
    }

    public int questionOf(int question, int what) {
        if (!town.hasQuestion(question)) return refuseFarBelow(BEYOND);
        switch (what) {
            case 0:
                return town.kindOf(question);
            case 1:
                return town.aOf(question);
            case 2:
                return town.allOf(question, ALL_GROUPS);
            case 3:
                return town.shareOf(question, ALL_GROUPS);
            case 4:
                return town.wrongOf(question);
            default:
                return refuseFarBelow(BEYOND);
        }
    }

    public int groupOf(int group, int what) {
        if (!town.hasGroup(group)) return refuse(BEYOND);
        switch (what) {
            case 0:
                return town.countOf(group);
            case 1:
                return town.viewOf(group);
            case 2:
                return town.gladOf(group);
            case 3:
                return town.homeOf(group);
            case 4:
                return town.willOf(group);
            default:
                return refuse(BEYOND);
        }
    }

    public int bears(int question, int other, int n) {
        if (!town.hasQuestion(question) || !town.hasQuestion(other)) return refuseFarBelow(NOBODY);
        if (question == other || !isWithin(n, -MOST_BEARING, MOST_BEARING)) return refuseFarBelow(WRONG);
        int before = town.bearingOf(question, other);
        town.putBearing(question, other, n);
        return before;
    }

    public int ask(int what, int v) {
        int before;
        if (what == 0 && isWithin(v, 0, MOST_PENNY)) {
            before = town.penny;
            town.penny = v;
        } else if (what == 1 && isWithin(v, 0, MOST_HALF)) {
            before = town.half;
            town.half = v;
        } else {
            before = refuse(WRONG);
        }
        return before;
    }

    public int town(int s) {
        int refusal = shelves.refusalOfRow(s);
        if (refusal != FITTING) return refuse(refusal);
        shelves.copyInts(s, townText.letters);
        int items = townText.read(shelves.sizeOf(s), town);
        latestFault = townText.fault;
        if (latestFault != NONE) return refuse(WRONG);
        town.become(townText.draft);
        return items;
    }

    public int fault() {
        return latestFault;
    }

    public int yes(int question, int group, int n) {
        if (!town.hasQuestion(question) || !town.hasGroup(group)) return refuse(NOBODY);
        if (!isWithin(n, 0, MOST_COUNT)) return refuse(WRONG);
        return town.yesOf(question, group, n);
    }

    public int answers(int t, int what) {
        if (!isWithin(what, 0, 1)) return refuse(BEYOND);
        if (!isWithin(t, 0, MOST_TRIES)) return refuse(WRONG);
        return what == 0 ? Tries.answersBetween(town, 0, t) : Tries.leftBy(town, t);
    }

    public int by(int question, int t, int what) {
        if (!town.hasQuestion(question)) return refuseFarBelow(NOBODY);
        if (!isWithin(what, 0, 1)) return refuseFarBelow(BEYOND);
        if (!isWithin(t, 0, MOST_TRIES)) return refuseFarBelow(WRONG);
        return what == 0 ? Tries.shareBetween(town, question, 0, t) : Tries.offBy(town, question, t);
    }

    public int hold() {
        return town.holding();
    }

    public int order(int set, int i) {
        int size = Integer.bitCount(set);
        if (!isWithin(i, NONE, size - 1)) return refuse(BEYOND);
        if (size > MOST_IN_ORDER || !town.hasQuestions(set)) return refuse(WRONG);
        int leans = orders.leansOfBest(town, set);
        return i == NONE ? leans : orders.questionOfBest(town, set, i);
    }

    public int blame() {
        int most = 0;
        int blamed = NONE;
        for (int p = 0; p < town.questionCount; p++) {
            for (int q = 0; q < town.questionCount; q++) {
                int bearing = Math.abs(town.bearingOf(p, q));
                if (bearing > most) {
                    most = bearing;
                    blamed = 100 * p + q;
                }
            }
        }
        return blamed;
    }

    public int nothing(int question, int other) {
        if (!town.hasQuestion(question) || !town.hasQuestion(other)) return refuseFarBelow(NOBODY);
        return 1000 - town.shareOf(question, ALL_GROUPS) - town.shareOf(other, ALL_GROUPS);
    }

    public int enough(int question, int v) {
        if (!town.hasQuestion(question)) return refuseBelowNone(NOBODY);
        if (!isWithin(v, 0, 1000)) return refuseBelowNone(WRONG);
        return Tries.enoughFor(town, question, v);
    }

    public int cost(int t) {
        if (!isWithin(t, 0, MOST_TRIES)) return refuse(WRONG);
        return Tries.costOf(town, t);
    }

    public int fine(int question, int c) {
        if (!town.hasQuestion(question)) return refuse(NOBODY);
        if (c < 0) return refuse(WRONG);
        return Tries.finest(town, question, c);
    }

    public int never() {
        return Tries.groupsThatNeverAnswer(town);
    }

    public int late(int question, int t) {
        if (question != NONE && !town.hasQuestion(question)) return refuse(NOBODY);
        if (!isWithin(t, 1, MOST_TRIES)) return refuse(WRONG);
        if (question == NONE) return Tries.answersBetween(town, t - 1, t);
        return Tries.shareBetween(town, question, t - 1, t);
    }

    public int fits(int v, int w) {
        if (!isWithin(v, 0, 1000) || !isWithin(w, 0, 1000)) return refuse(WRONG);
        int fitting = 0;
        for (int q = 0; q < town.questionCount; q++) {
            if (Math.abs(town.shareOf(q, ALL_GROUPS) - v) <= w) fitting |= 1 << q;
        }
        return fitting;
    }

    public int halves(int question) {
        if (!town.hasQuestion(question) || !town.hasQuestion(town.half)) return refuseFarBelow(NOBODY);
        return town.shareOf(question, EVEN_GROUPS) - town.shareOf(town.half, ODD_GROUPS);
    }

    public int twin(int question) {
        if (!town.hasQuestion(question)) return refuseBelowNone(NOBODY);
        int share = town.shareOf(question, ALL_GROUPS);
        int least = MORE_THAN_ANY;
        int twin = NONE;
        for (int q = 0; q < town.questionCount; q++) {
            int apart = Math.abs(share + town.shareOf(q, ALL_GROUPS) - 1000);
            if (q != question && apart < least) {
                least = apart;
                twin = q;
            }
        }
        return twin;
    }

    public int nearest() {
        if (town.questionCount == 0) return refuse(BEYOND);
        int least = MORE_THAN_ANY;
        int nearest = NONE;
        for (int q = 0; q < town.questionCount; q++) {
            int wrong = Math.abs(town.wrongOf(q));
            if (wrong < least) {
                least = wrong;
                nearest = q;
            }
        }
        return nearest;
    }

    public int move(int question, int v) {
        if (!town.hasQuestion(question)) return refuseBelowNone(NOBODY);
        if (!isWithin(v, 0, 1000)) return refuseBelowNone(WRONG);
        return town.leastMoved(question, v);
    }

    public int judge(int s, int n) {
        int refusal = refusalOfRound(s, n, NONE);
        if (refusal != FITTING) return refuseBelowNone(refusal);
        return wrongOfRound(s, n);
    }

    public int round(int s, int n, int i) {
        int refusal = refusalOfRound(s, n, i);
        if (refusal != FITTING) return refuse(refusal);
        if (wrongOfRound(s, n) != NONE) return refuse(WRONG);
        return i == NONE ? leansOfRound(s, n) : shareInRound(s, i);
    }

    public int change(int group, int view, int n) {
        if (!town.hasGroup(group)) return refuse(NOBODY);
        boolean fitting = isWithin(view, YES, NEITHER) && view != town.viewOf(group)
                && isWithin(n, 1, town.countOf(group));
        if (!fitting) return refuse(WRONG);
        if (n == town.countOf(group)) {
            town.putView(group, view);
            return group;
        }
        if (!town.hasRoomForGroup()) return refuse(ROOM);
        return town.splitGroup(group, view, n);
    }

    public int doors(int n) {
        if (town.groupCount == 0 || town.questionCount == 0) return refuse(BEYOND);
        if (!isWithin(n, 1, MOST_DOORS)) return refuse(WRONG);
        int before = town.yeses;
        for (int i = 0; i < n; i++) {
            town.knock();
        }
        return town.yeses - before;
    }

    public int seed(int v) {
        int before = town.seed;
        town.seed = v;
        return before;
    }

    public int act(int question, int act, int x) {
        acts.forget();
        if (!town.hasQuestion(question)) return 0;
        return acts.run(question, town.kindOf(question), town.aOf(question), act, x);
    }

    public int trace(int i) {
        return acts.traceAt(i);
    }

    public int image() {
        image.become(town);
        imageTaken = true;
        return town.questionCount;
    }

    public int restore() {
        if (!imageTaken) return refuse(WRONG);
        town.become(image);
        shelves.dropQuestionsFrom(town.questionCount);
        return town.questionCount;
    }

    public int status(int what) {
        switch (what) {
            case 0:
                return town.questionCount;
            case 1:
                return town.groupCount;
            case 2:
                return town.peopleOf(ALL_GROUPS);
            case 3:
                return town.penny;
            case 4:
                return town.half;
            case 5:
                return town.asked;
            case 6:
                return town.yeses;
            case 7:
                return town.seed;
            case 8:
                return acts.bodies;
            default:
                return isWithin(what, 11, 17) ? refusals[what - 10] : NONE;
        }
    }

    private int refuse(int refusal) {
        if (isWithin(refusal, ROOM, NOBODY)) refusals[-refusal]++;
        return refusal;
    }

    private int refuseFarBelow(int refusal) {
        return FAR_BELOW + refuse(refusal);
    }

    private int refuseBelowNone(int refusal) {
        return BELOW_NONE + refuse(refusal);
    }

    /** The refusal of a told ROUND, but for what its elements are; i: which of it is wanted. */
    private int refusalOfRound(int s, int n, int i) {
        int refusal = shelves.refusalOfRow(s);
        if (refusal != FITTING) return refusal;
        if (n < 0) return BELOW;
        if (n > shelves.sizeOf(s) || !isWithin(i, NONE, n - 1)) return BEYOND;
        return n > MOST_TOLD ? WRONG : FITTING;
    }

    private int wrongOfRound(int s, int n) {
        int there = 0;
        for (int i = 0; i < n; i++) {
            int question = shelves.intAt(s, i);
            if (!town.hasQuestion(question) || contains(there, question)) return i;
            there |= 1 << question;
        }
        return NONE;
    }

    private int leansOfRound(int s, int n) {
        int leans = 0;
        int ahead = 0;
        for (int i = 0; i < n; i++) {
            int question = shelves.intAt(s, i);
            int share = town.shareOf(question, ALL_GROUPS);
            leans += Math.abs(town.shareBehind(question, share, ahead) - share);
            ahead |= 1 << question;
        }
        return leans;
    }

    private int shareInRound(int s, int i) {
        int ahead = 0;
        for (int j = 0; j < i; j++) {
            ahead |= 1 << shelves.intAt(s, j);
        }
        int question = shelves.intAt(s, i);
        return town.shareBehind(question, town.shareOf(question, ALL_GROUPS), ahead);
    }

    private static boolean isWithin(int v, int least, int most) {
        return v >= least && v <= most;
    }

    private static boolean isShelf(int s) {
        return isWithin(s, 0, SHELF_COUNT - 1);
    }

    private static boolean isKind(int kind) {
        return isWithin(kind, QUESTION, EMPTY);
    }

    private static boolean contains(int set, int member) {
        return (set & 1 << member) != 0;
    }

    private static boolean isOrUnder(int kind, int wanted) {
        int above = kind;
        for (int i = 0; i < ABOVE.length && isKind(above); i++) {
            if (above == wanted) return true;
            above = ABOVE[above];
        }
        return false;
    }

    private static int thousandths(int part, int whole) {
        return whole == 0 ? 0 : 1000 * part / whole;
    }

    /** YES of n people to a question of a KIND with its a. */
    private static int yesBy(int kind, int a, int view, int glad, int n) {
        int half = n / 2;
        int holdYes = view == YES ? n : view == NO ? 0 : half;
        int holdNo = view == NO ? n : view == YES ? 0 : half;
        int gladAndLed = glad + a > 10 ? 10 : glad + a;
        switch (kind) {
            case KEEN:
                return holdYes + (n - holdYes) * glad / 10;
            case TURNED:
                return holdNo;
            case LED:
                return holdYes + (n - holdYes) * gladAndLed / 10;
            case BOXED:
                return holdYes * (10 - a) / 10;
            case FORBID:
                return holdNo * (10 - a) / 10;
            case EMPTY:
                return half * (10 - a) / 10;
            default:
                return holdYes;
        }
    }

    /** All that THE IMAGE keeps. */
    private static final class Town {
        private static final int QUESTION_NUMBERS = 2;
        private static final int GROUP_NUMBERS = 5;

        private final int[] questions = new int[MOST_QUESTIONS * QUESTION_NUMBERS];
        private final int[] bearings = new int[MOST_QUESTIONS * MOST_QUESTIONS];
        private final int[] groups = new int[MOST_GROUPS * GROUP_NUMBERS];
        int questionCount;
        int groupCount;
        int penny = 5;
        int half;
        int seed = 1;
        int asked;
        int yeses;

        void become(Town other) {
            System.arraycopy(other.questions, 0, questions, 0, questions.length);
            System.arraycopy(other.bearings, 0, bearings, 0, bearings.length);
            System.arraycopy(other.groups, 0, groups, 0, groups.length);
            questionCount = other.questionCount;
            groupCount = other.groupCount;
            penny = other.penny;
            half = other.half;
            seed = other.seed;
            asked = other.asked;
            yeses = other.yeses;
        }

        boolean hasQuestion(int question) {
            return isWithin(question, 0, questionCount - 1);
        }

        boolean hasQuestions(int set) {
            return set >>> questionCount == 0;
        }

        boolean hasGroup(int group) {
            return isWithin(group, 0, groupCount - 1);
        }

        boolean hasRoomForQuestion() {
            return questionCount < MOST_QUESTIONS;
        }

        boolean hasRoomForGroup() {
            return groupCount < MOST_GROUPS;
        }

        int addQuestion(int kind, int a) {
            int question = questionCount++;
            questions[question * QUESTION_NUMBERS] = kind;
            questions[question * QUESTION_NUMBERS + 1] = a;
            return question;
        }

        int addGroup(int count, int view, int glad, int home, int will) {
            int group = groupCount++;
            int first = group * GROUP_NUMBERS;
            groups[first] = count;
            groups[first + 1] = view;
            groups[first + 2] = glad;
            groups[first + 3] = home;
            groups[first + 4] = will;
            return group;
        }

        int splitGroup(int group, int view, int n) {
            groups[group * GROUP_NUMBERS] -= n;
            return addGroup(n, view, gladOf(group), homeOf(group), willOf(group));
        }

        int kindOf(int question) {
            return questions[question * QUESTION_NUMBERS];
        }

        int aOf(int question) {
            return questions[question * QUESTION_NUMBERS + 1];
        }

        int bearingOf(int question, int other) {
            return bearings[question * MOST_QUESTIONS + other];
        }

        void putBearing(int question, int other, int n) {
            bearings[question * MOST_QUESTIONS + other] = n;
        }

        int countOf(int group) {
            return groups[group * GROUP_NUMBERS];
        }

        int viewOf(int group) {
            return groups[group * GROUP_NUMBERS + 1];
        }

        void putView(int group, int view) {
            groups[group * GROUP_NUMBERS + 1] = view;
        }

        int gladOf(int group) {
            return groups[group * GROUP_NUMBERS + 2];
        }

        int homeOf(int group) {
            return groups[group * GROUP_NUMBERS + 3];
        }

        int willOf(int group) {
            return groups[group * GROUP_NUMBERS + 4];
        }

        int yesAs(int question, int view, int glad, int n) {
            return yesBy(kindOf(question), aOf(question), view, glad, n);
        }

        int yesOf(int question, int group, int n) {
            return yesBy(kindOf(question), aOf(question), viewOf(group), gladOf(group), n);
        }

        int peopleOf(int groupSet) {
            int people = 0;
            for (int g = 0; g < groupCount; g++) {
                if (contains(groupSet, g)) people += countOf(g);
            }
            return people;
        }

        int allOf(int question, int groupSet) {
            int all = 0;
            for (int g = 0; g < groupCount; g++) {
                if (contains(groupSet, g)) all += yesOf(question, g, countOf(g));
            }
            return all;
        }

        int shareOf(int question, int groupSet) {
            return thousandths(allOf(question, groupSet), peopleOf(groupSet));
        }

        /** SHARE of a QUESTION in an order; ahead: those ahead of it. */
        int shareBehind(int question, int share, int ahead) {
            int bearing = 0;
            for (int p = 0; p < questionCount; p++) {
                if (contains(ahead, p)) bearing += bearingOf(p, question);
            }
            return Math.max(0, Math.min(1000, share + 10 * bearing));
        }

        int holding() {
            int holders = 0;
            for (int g = 0; g < groupCount; g++) {
                if (viewOf(g) == YES) holders += countOf(g);
            }
            return thousandths(holders, peopleOf(ALL_GROUPS));
        }

        int wrongOf(int question) {
            int share = shareOf(question, ALL_GROUPS);
            int told = isOrUnder(kindOf(question), TURNED) ? 1000 - share : share;
            return told - holding();
        }

        /** How many of no VIEW would have to hold YES; tried one by one, for more of them need not mean more YES. */
        int leastMoved(int question, int v) {
            int people = peopleOf(ALL_GROUPS);
            int all = allOf(question, ALL_GROUPS);
            if (thousandths(all, people) >= v) return 0;
            int moved = 0;
            for (int g = 0; g < groupCount; g++) {
                if (viewOf(g) != NEITHER) continue;
                int count = countOf(g);
                int others = all - yesOf(question, g, count);
                for (int n = 1; n <= count; n++) {
                    all = others + yesAs(question, YES, gladOf(g), n) + yesOf(question, g, count - n);
                    if (thousandths(all, people) >= v) return moved + n;
                }
                moved += count;
            }
            return NONE;
        }

        /** One DOOR by draws. */
        void knock() {
            int group = draw(groupCount);
            if (draw(10) >= homeOf(group) || draw(10) >= willOf(group)) return;
            asked++;
            int question = draw(questionCount);
            int count = countOf(group);
            if (draw(count) < yesOf(question, group, count)) yeses++;
        }

        private int draw(int n) {
            seed = seed * 1103515245 + 12345;
            return n < 1 ? 0 : (seed >>> 16) % n;
        }
    }

    /** Who is reached by so many TRIES, and what is told by these. */
    private static final class Tries {
        private static int leftOf(Town town, int group, int t) {
            int left = town.countOf(group);
            for (int i = 0; i < t; i++) {
                left -= left * town.homeOf(group) / 10;
            }
            return left;
        }

        private static int answersOf(Town town, int group, int t) {
            int left = town.countOf(group);
            int answers = 0;
            for (int i = 0; i < t; i++) {
                int in = left * town.homeOf(group) / 10;
                left -= in;
                answers += in * town.willOf(group) / 10;
            }
            return answers;
        }

        static int leftBy(Town town, int t) {
            int left = 0;
            for (int g = 0; g < town.groupCount; g++) {
                left += leftOf(town, g, t);
            }
            return left;
        }

        /** ANSWERS of the TRIES behind the first ones, up to the last. */
        static int answersBetween(Town town, int first, int last) {
            int answers = 0;
            for (int g = 0; g < town.groupCount; g++) {
                answers += answersOf(town, g, last) - answersOf(town, g, first);
            }
            return answers;
        }

        /** SHARE of a QUESTION by those ANSWERS. */
        static int shareBetween(Town town, int question, int first, int last) {
            int yes = 0;
            for (int g = 0; g < town.groupCount; g++) {
                yes += town.yesOf(question, g, answersOf(town, g, last) - answersOf(town, g, first));
            }
            return thousandths(yes, answersBetween(town, first, last));
        }

        static int offBy(Town town, int question, int t) {
            return shareBetween(town, question, 0, t) - town.shareOf(question, ALL_GROUPS);
        }

        static int costOf(Town town, int t) {
            int doors = 0;
            for (int i = 0; i < t; i++) {
                doors += leftBy(town, i);
            }
            return town.penny * doors;
        }

        static int enoughFor(Town town, int question, int v) {
            for (int t = 0; t <= MOST_TRIES; t++) {
                if (Math.abs(offBy(town, question, t)) <= v) return t;
            }
            return NONE;
        }

        static int finest(Town town, int question, int c) {
            int least = MORE_THAN_ANY;
            int finest = 0;
            for (int t = 0; t <= MOST_TRIES; t++) {
                int off = Math.abs(offBy(town, question, t));
                if (costOf(town, t) <= c && off < least) {
                    least = off;
                    finest = t;
                }
            }
            return finest;
        }

        static int groupsThatNeverAnswer(Town town) {
            int never = 0;
            for (int g = 0; g < town.groupCount; g++) {
                if (answersOf(town, g, MOST_TRIES) == 0) never |= 1 << g;
            }
            return never;
        }
    }

    /**
     * The BEST ORDER. How much a QUESTION is changed depends on which are ahead of it, not on how these stand: so it
     * is found by sets of those that are still to come, and not by going through all orders.
     */
    private static final class Orders {
        private final int[] shares = new int[MOST_QUESTIONS];
        /** By how much the QUESTIONS of a set change at least, the others of the set in hand ahead of them; none: 0. */
        private final int[] leastOfRest = new int[1 << MOST_QUESTIONS];

        int leansOfBest(Town town, int set) {
            for (int q = 0; q < town.questionCount; q++) {
                shares[q] = town.shareOf(q, ALL_GROUPS);
            }
            for (int rest = 1; rest < leastOfRest.length; rest++) {
                if ((rest & ~set) == 0) leastOfRest[rest] = leastOf(town, set, rest);
            }
            return leastOfRest[set];
        }

        /** The i-th QUESTION, once leansOfBest() has gone through that set. */
        int questionOfBest(Town town, int set, int i) {
            int rest = set;
            for (int place = 0; place < i; place++) {
                rest &= ~(1 << firstOf(town, set, rest));
            }
            return firstOf(town, set, rest);
        }

        private int leastOf(Town town, int set, int rest) {
            int least = MORE_THAN_ANY;
            for (int q = 0; q < town.questionCount; q++) {
                if (contains(rest, q)) least = Math.min(least, leansWithFirst(town, set, rest, q));
            }
            return least;
        }

        private int firstOf(Town town, int set, int rest) {
            for (int q = 0; q < town.questionCount; q++) {
                if (contains(rest, q) && leansWithFirst(town, set, rest, q) == leastOfRest[rest]) return q;
            }
            return NONE;
        }

        private int leansWithFirst(Town town, int set, int rest, int question) {
            int change = town.shareBehind(question, shares[question], set & ~rest) - shares[question];
            return Math.abs(change) + leastOfRest[rest & ~(1 << question)];
        }
    }

    /** What the SHELVES hold: NONE, the number of a QUESTION, or the mark of a ROW and its SORT. */
    private static final class Shelves {
        private final int[] held = new int[SHELF_COUNT];
        private final int[] sizes = new int[SHELF_COUNT];
        private final long[] elements = new long[SHELF_COUNT * MOST_ELEMENTS];

        Shelves() {
            for (int s = 0; s < SHELF_COUNT; s++) {
                held[s] = NONE;
            }
        }

        int heldBy(int s) {
            return held[s];
        }

        int sizeOf(int s) {
            return sizes[s];
        }

        private boolean holdsRow(int s) {
            return held[s] >= ROW_MARK;
        }

        private boolean holdsQuestion(int s) {
            return held[s] != NONE && held[s] < ROW_MARK;
        }

        int refusalOfRow(int s) {
            return refusalOfRows(s, s);
        }

        int refusalOfRows(int p, int q) {
            if (!isShelf(p) || !isShelf(q)) return NOBODY;
            if (holdsQuestion(p) || holdsQuestion(q)) return OTHER;
            if (holdsRow(p) && holdsRow(q)) return held[p] == held[q] ? FITTING : OTHER;
            return NOTHING;
        }

        /** Whether the n elements from one on are there. */
        boolean has(int s, int first, int n) {
            return first >= 0 && first <= sizes[s] - n;
        }

        void putRow(int s, int sort, int n) {
            held[s] = ROW_MARK + sort;
            sizes[s] = n;
            for (int i = 0; i < n; i++) {
                elements[s * MOST_ELEMENTS + i] = 0;
            }
        }

        void putQuestion(int s, int question) {
            held[s] = question;
        }

        void dropQuestionsFrom(int first) {
            for (int s = 0; s < SHELF_COUNT; s++) {
                if (holdsQuestion(s) && held[s] >= first) held[s] = NONE;
            }
        }

        void putElement(int s, int i, long v) {
            elements[s * MOST_ELEMENTS + i] = lowestBits(held[s] - ROW_MARK, v);
        }

        private static long lowestBits(int sort, long v) {
            switch (sort) {
                case 0:
                    return (byte) v;
                case 1:
                    return (short) v;
                case 2:
                    return (int) v;
                default:
                    return v;
            }
        }

        void copyElements(int p, int q, int i, int j, int n) {
            System.arraycopy(elements, p * MOST_ELEMENTS + i, elements, q * MOST_ELEMENTS + j, n);
        }

        long longAt(int s, int i) {
            return elements[s * MOST_ELEMENTS + i];
        }

        int intAt(int s, int i) {
            return (int) elements[s * MOST_ELEMENTS + i];
        }

        void copyInts(int s, int[] ints) {
            for (int i = 0; i < sizes[s] && i < ints.length; i++) {
                ints[i] = intAt(s, i);
            }
        }
    }

    /** Reads a TOWN into a draft: behind the FAULT nothing is read, and the draft is not to be used. */
    private static final class TownText {
        final int[] letters = new int[MOST_ELEMENTS];
        final Town draft = new Town();
        int fault = NONE;
        private int size;
        private int place;

        /** How many ITEMS the first letters tell over a town; of use only without a FAULT. */
        int read(int letterCount, Town town) {
            draft.become(town);
            size = letterCount;
            place = 0;
            fault = NONE;
            readItem();
            int items = 1;
            for (int i = 0; i < letterCount && fault == NONE && place < size; i++) {
                readLetter(';');
                readItem();
                items++;
            }
            return items;
        }

        private void readItem() {
            switch (letterHere()) {
                case 'g':
                    readGroup();
                    break;
                case 'q':
                    readQuestion();
                    break;
                case 'b':
                    readWord("bears");
                    readBearing(1);
                    break;
                case 'a':
                    readWord("against");
                    readBearing(-1);
                    break;
                case 'p':
                    readWord("penny");
                    draft.penny = readNumber(0, MOST_PENNY);
                    break;
                case 'h':
                    readWord("half");
                    draft.half = readNumber(0, MOST_HALF);
                    break;
                default:
                    faultAt(place);
            }
        }

        private void readGroup() {
            int word = place;
            readWord("group");
            if (!draft.hasRoomForGroup()) faultAt(word);
            int count = readNumber(1, MOST_COUNT);
            int view = readNumber(YES, NEITHER);
            int glad = readNumber(0, 10);
            int home = readNumber(0, 10);
            int will = readNumber(0, 10);
            if (fault == NONE) draft.addGroup(count, view, glad, home, will);
        }

        private void readQuestion() {
            int word = place;
            readWord("question");
            if (!draft.hasRoomForQuestion()) faultAt(word);
            int kind = readNumber(QUESTION, EMPTY);
            int a = readNumber(0, MOST_A);
            if (fault == NONE) draft.addQuestion(kind, a);
        }

        private void readBearing(int sign) {
            int question = readNumber(0, draft.questionCount - 1);
            int firstDigit = place + 1;
            int other = readNumber(0, draft.questionCount - 1);
            if (other == question) faultAt(firstDigit);
            int n = readNumber(0, MOST_BEARING);
            if (fault == NONE) draft.putBearing(question, other, sign * n);
        }

        /** The first FAULT is kept. */
        private void faultAt(int where) {
            if (fault == NONE) fault = where;
        }

        private int letterHere() {
            return place >= 0 && place < size ? letters[place] : NONE;
        }

        private void readLetter(char letter) {
            if (letterHere() != letter) faultAt(place);
            if (fault == NONE) place++;
        }

        private void readWord(String word) {
            for (int i = 0; i < word.length(); i++) {
                readLetter(word.charAt(i));
            }
        }

        /** The blank ahead of a NUMBER, and the NUMBER. */
        private int readNumber(int least, int most) {
            readLetter(' ');
            int firstDigit = place;
            int number = 0;
            for (int i = 0; i < 3 && fault == NONE && isWithin(letterHere(), '0', '9'); i++) {
                number = 10 * number + letterHere() - '0';
                place++;
            }
            if (place == firstDigit) faultAt(place);
            if (!isWithin(number, least, most)) faultAt(firstDigit);
            return number;
        }
    }

    /**
     * The ACTS of one QUESTION at a time. asksFrom and so on: the body of a KIND, or of the next KIND above that has
     * one; a body's super goes by a KIND further up, of which there are three at most, so that none calls on for long.
     */
    private static final class Acts {
        private static final int MOST_KEPT = 20;

        private final int[] kept = new int[MOST_KEPT];
        int bodies;
        private int number;
        private int kind;
        private int a;

        void forget() {
            bodies = 0;
        }

        int run(int questionNumber, int questionKind, int questionA, int act, int x) {
            number = questionNumber;
            kind = questionKind;
            a = questionA;
            switch (act) {
                case 0:
                    return asksFrom(kind, x);
                case 1:
                    return leansFrom(kind, x);
                case 2:
                    return sumsFrom(kind, x);
                default:
                    return 0;
            }
        }

        int traceAt(int i) {
            return isWithin(i, 0, Math.min(bodies, MOST_KEPT) - 1) ? kept[i] : NONE;
        }

        private void begin(int body) {
            if (bodies < MOST_KEPT) kept[bodies] = body;
            bodies++;
        }

        private int asksFrom(int from, int x) {
            switch (from) {
                case KEEN:
                case LED:
                    begin(20);
                    return asksFrom(QUESTION, x) + a;
                case BOXED:
                    begin(51);
                    return asksFrom(QUESTION, x) - number;
                case EMPTY:
                    begin(70);
                    return asksFrom(BOXED, x) * 2;
                default:
                    begin(10);
                    return x + number;
            }
        }

        private int leansFrom(int from, int x) {
            switch (from) {
                case TURNED:
                case FORBID:
                    begin(30);
                    return leansFrom(QUESTION, x) * 3;
                case LED:
                    begin(40);
                    return leansFrom(KEEN, x + 1);
                case EMPTY:
                    begin(71);
                    return leansFrom(BOXED, x - a);
                default:
                    begin(11);
                    return asksFrom(kind, x) * 2;
            }
        }

        private int sumsFrom(int from, int x) {
            switch (from) {
                case BOXED:
                case EMPTY:
                    begin(50);
                    return -sumsFrom(QUESTION, x);
                case FORBID:
                    begin(60);
                    return sumsFrom(TURNED, x) ^ 5;
                default:
                    begin(12);
                    return leansFrom(kind, x) ^ asksFrom(kind, x - a);
            }
        }
    }
}
