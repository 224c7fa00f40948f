import java.util.ArrayList;
import java.util.List;

/**
 * The document once more, told as long-windedly as may be: people one by one, all orders gone through, KINDS as
 * classes. RandomRunsTest holds the class against it. It may throw, allocate and take its time.
 */
final class Model {
    private static final class Refused extends RuntimeException {
        private static final long serialVersionUID = 1;
        final int number;

        Refused(int number) {
            super(null, null, false, false);
            this.number = number;
        }
    }

    private static final class Fault extends RuntimeException {
        private static final long serialVersionUID = 1;
        final int place;

        Fault(int place) {
            super(null, null, false, false);
            this.place = place;
        }
    }

    static class Q implements Cloneable {
        int m;
        int k;
        int kind;
        int[] bears = new int[8];
        Model model;

        int yes(int view, int glad, int n) {
            return view == 0 ? n : view == 1 ? 0 : n / 2;
        }

        boolean contrary() {
            return false;
        }

        int asks(int x) {
            model.ran.add(10);
            return x + m;
        }

        int leans(int x) {
            model.ran.add(11);
            return asks(x) * 2;
        }

        int sums(int x) {
            model.ran.add(12);
            int l = leans(x);
            int r = asks(x - k);
            return l ^ r;
        }
    }

    static class Keen extends Q {
        int gladness(int glad) {
            return glad;
        }

        @Override int yes(int view, int glad, int n) {
            int yes = super.yes(view, glad, n);
            return yes + (int) Math.floor((n - yes) * gladness(glad) / 10.0 + 1e-9);
        }

        @Override int asks(int x) {
            model.ran.add(20);
            return super.asks(x) + k;
        }
    }

    static final class Led extends Keen {
        @Override int gladness(int glad) {
            return Math.min(10, glad + k);
        }

        @Override int leans(int x) {
            model.ran.add(40);
            return super.leans(x + 1);
        }
    }

    static class Turned extends Q {
        @Override int yes(int view, int glad, int n) {
            return view == 1 ? n : view == 0 ? 0 : n / 2;
        }

        @Override boolean contrary() {
            return true;
        }

        @Override int leans(int x) {
            model.ran.add(30);
            return super.leans(x) * 3;
        }
    }

    static final class Forbid extends Turned {
        @Override int yes(int view, int glad, int n) {
            return super.yes(view, glad, n) * (10 - k) / 10;
        }

        @Override int sums(int x) {
            model.ran.add(60);
            return super.sums(x) ^ 5;
        }
    }

    static class Boxed extends Q {
        @Override int yes(int view, int glad, int n) {
            return super.yes(view, glad, n) * (10 - k) / 10;
        }

        @Override int asks(int x) {
            model.ran.add(51);
            return super.asks(x) - m;
        }

        @Override int sums(int x) {
            model.ran.add(50);
            return -super.sums(x);
        }
    }

    static final class Empty extends Boxed {
        @Override int yes(int view, int glad, int n) {
            return super.yes(2, glad, n);
        }

        @Override int asks(int x) {
            model.ran.add(70);
            return super.asks(x) * 2;
        }

        @Override int leans(int x) {
            model.ran.add(71);
            return super.leans(x - k);
        }
    }

    private static final Class<?>[] KINDS = {
        Q.class, Keen.class, Turned.class, Led.class, Boxed.class, Forbid.class, Empty.class
    };

    static final class G {
        int count;
        int view;
        int glad;
        int home;
        int will;

        G(int count, int view, int glad, int home, int will) {
            this.count = count;
            this.view = view;
            this.glad = glad;
            this.home = home;
            this.will = will;
        }

        G copy() {
            return new G(count, view, glad, home, will);
        }

        /** Of each TRY: how many are LEFT then, how many ANSWER. */
        int[][] tries() {
            int[][] rows = new int[10][2];
            rows[0][0] = count;
            for (int t = 1; t < 10; t++) {
                int in = rows[t - 1][0] * home / 10;
                rows[t][0] = rows[t - 1][0] - in;
                rows[t][1] = in * will / 10;
            }
            return rows;
        }
    }

    static final class State {
        List<Q> questions = new ArrayList<>();
        List<G> groups = new ArrayList<>();
        int penny = 5;
        int half = 0;
        int seed = 1;
        int asked = 0;
        int yeses = 0;

        State copy() {
            State s = new State();
            for (Q q : questions) {
                Q made = make(q.kind);
                made.m = q.m;
                made.k = q.k;
                made.kind = q.kind;
                made.model = q.model;
                made.bears = q.bears.clone();
                s.questions.add(made);
            }
            for (G g : groups) s.groups.add(g.copy());
            s.penny = penny;
            s.half = half;
            s.seed = seed;
            s.asked = asked;
            s.yeses = yeses;
            return s;
        }
    }

    private static Q make(int kind) {
        switch (kind) {
            case 0: return new Q();
            case 1: return new Keen();
            case 2: return new Turned();
            case 3: return new Led();
            case 4: return new Boxed();
            case 5: return new Forbid();
            default: return new Empty();
        }
    }

    private static final class Row {
        final int sort;
        final long[] e;

        Row(int sort, int n) {
            this.sort = sort;
            e = new long[n];
        }

        void put(int i, long v) {
            int bits = 8 << sort;
            e[i] = v << 64 - bits >> 64 - bits;
        }
    }

    private State s = new State();
    private State image;
    private final Object[] shelves = new Object[8];
    private final int[] refused = new int[8];
    private int fault = -1;
    final List<Integer> ran = new ArrayList<>();

    /** One call by its number in the face; the refusals that it answers are put to its offset. */
    long call(int op, long[] a) {
        int far = op == 10 || op == 12 || op == 17 || op == 21 || op == 28 ? -10000
                : op == 22 || op == 29 || op == 31 || op == 32 ? -10 : 0;
        try {
            return answer(op, a);
        } catch (Refused r) {
            refused[-r.number]++;
            return far + r.number;
        }
    }

    private static void need(boolean fits, int number) {
        if (!fits) throw new Refused(number);
    }

    private static boolean in(long v, long least, long most) {
        return least <= v && v <= most;
    }

    private Q q(long question, int number) {
        need(in(question, 0, s.questions.size() - 1), number);
        return s.questions.get((int) question);
    }

    private G g(long group, int number) {
        need(in(group, 0, s.groups.size() - 1), number);
        return s.groups.get((int) group);
    }

    private Row rowIn(long shelf) {
        need(in(shelf, 0, 7), -1);
        Object held = shelves[(int) shelf];
        need(!(held instanceof Integer), -2);
        need(held != null, -3);
        return (Row) held;
    }

    private long answer(int op, long[] a) {
        switch (op) {
            case 0:
                need(in(a[0], 0, 7), -1);
                need(a[2] >= 0, -4);
                need(in(a[1], 0, 3), -6);
                need(a[2] <= 160, -7);
                shelves[(int) a[0]] = new Row((int) a[1], (int) a[2]);
                return 1;
            case 1: {
                Row row = rowIn(a[0]);
                need(in(a[1], 0, row.e.length - 1), -5);
                row.put((int) a[1], a[2]);
                return 1;
            }
            case 2:
                return copy(a);
            case 3: {
                if (!in(a[0], 0, 7) || !(shelves[(int) a[0]] instanceof Row)) return 0;
                Row row = (Row) shelves[(int) a[0]];
                return in(a[1], 0, row.e.length - 1) ? row.e[(int) a[1]] : 0;
            }
            case 4:
                need(in(a[0], 0, 7) && in(a[1], -1, s.questions.size() - 1), -1);
                shelves[(int) a[0]] = a[1] == -1 ? null : Integer.valueOf((int) a[1]);
                return a[1] == -1 ? 0 : 1;
            case 5: {
                if (!in(a[0], 0, 7) || shelves[(int) a[0]] == null) return -1;
                Object held = shelves[(int) a[0]];
                return held instanceof Row ? 100 + ((Row) held).sort : (Integer) held;
            }
            case 6:
                return says(a);
            case 7:
                need(in(a[0], 0, 6), -1);
                need(in(a[1], 0, 9), -6);
                need(s.questions.size() < 8, -7);
                return add(s, (int) a[0], (int) a[1]);
            case 8:
                need(in(a[0], 1, 999) && in(a[1], 0, 2) && in(a[2], 0, 10) && in(a[3], 0, 10) && in(a[4], 0, 10), -6);
                need(s.groups.size() < 10, -7);
                s.groups.add(new G((int) a[0], (int) a[1], (int) a[2], (int) a[3], (int) a[4]));
                return s.groups.size() - 1;
            case 9: {
                G g = g(a[0], -5);
                need(in(a[1], 0, 4), -5);
                return new int[] {g.count, g.view, g.glad, g.home, g.will}[(int) a[1]];
            }
            case 10: {
                Q q = q(a[0], -5);
                need(in(a[1], 0, 4), -5);
                return new int[] {q.kind, q.k, all(q, s.groups), share(q), wrong(q)}[(int) a[1]];
            }
            case 11:
                need(in(a[0], 0, 1) && in(a[1], 0, a[0] == 0 ? 99 : 7), -6);
                if (a[0] == 0) {
                    int was = s.penny;
                    s.penny = (int) a[1];
                    return was;
                } else {
                    int was = s.half;
                    s.half = (int) a[1];
                    return was;
                }
            case 12: {
                Q q = q(a[0], -1);
                Q other = q(a[1], -1);
                need(q != other && in(a[2], -9, 9), -6);
                int was = q.bears[other.m];
                q.bears[other.m] = (int) a[2];
                return was;
            }
            case 13:
                return town(a);
            case 14:
                return fault;
            case 15: {
                Q q = q(a[0], -1);
                G g = g(a[1], -1);
                need(in(a[2], 0, 999), -6);
                return q.yes(g.view, g.glad, (int) a[2]);
            }
            default:
                return told(op, a);
        }
    }

    private static int add(State s, int kind, int k) {
        Q q = make(kind);
        q.kind = kind;
        q.k = k;
        q.m = s.questions.size();
        s.questions.add(q);
        return q.m;
    }

    private long copy(long[] a) {
        need(in(a[0], 0, 7) && in(a[1], 0, 7), -1);
        Object p = shelves[(int) a[0]];
        Object q = shelves[(int) a[1]];
        need(!(p instanceof Integer) && !(q instanceof Integer), -2);
        need(p == null || q == null || ((Row) p).sort == ((Row) q).sort, -2);
        need(p != null && q != null, -3);
        need(a[4] >= 0, -4);
        Row from = (Row) p;
        Row to = (Row) q;
        need(a[2] >= 0 && a[3] >= 0 && a[2] + a[4] <= from.e.length && a[3] + a[4] <= to.e.length, -5);
        long[] ahead = from.e.clone();
        for (int i = 0; i < a[4]; i++) to.e[(int) a[3] + i] = ahead[(int) a[2] + i];
        return 1;
    }

    private long says(long[] a) {
        need(in(a[0], 0, 7) && in(a[1], 0, 6), -1);
        Object held = shelves[(int) a[0]];
        need(!(held instanceof Row), -2);
        if (held != null) need(KINDS[(int) a[1]].isInstance(s.questions.get((Integer) held)), -2);
        need(held != null, -3);
        Q q = s.questions.get((Integer) held);
        if (a[1] == 0) return share(q);
        return q.yes(a[1] == 4 || a[1] == 6 ? 0 : 1, 5, 100);
    }

    private static int sum(List<G> groups) {
        int people = 0;
        for (G g : groups) people += g.count;
        return people;
    }

    private static int all(Q q, List<G> groups) {
        int yes = 0;
        for (G g : groups) yes += q.yes(g.view, g.glad, g.count);
        return yes;
    }

    private static int part(int yes, int people) {
        return people == 0 ? 0 : (int) (1000L * yes / people);
    }

    private static int share(Q q, List<G> groups) {
        return part(all(q, groups), sum(groups));
    }

    private int share(Q q) {
        return share(q, s.groups);
    }

    private int hold() {
        int yes = 0;
        for (G g : s.groups) if (g.view == 0) yes += g.count;
        return part(yes, sum(s.groups));
    }

    private int wrong(Q q) {
        return (q.contrary() ? 1000 - share(q) : share(q)) - hold();
    }

    /** Of the TRIES from first to last: ANSWERS, and YES of these (to a QUESTION, if one is told). */
    private int[] answered(Q q, int first, int last) {
        int[] sums = new int[2];
        for (G g : s.groups) {
            int[][] rows = g.tries();
            int n = 0;
            for (int t = first; t <= last; t++) n += rows[t][1];
            sums[0] += n;
            if (q != null) sums[1] += q.yes(g.view, g.glad, n);
        }
        return sums;
    }

    private int shareBy(Q q, int first, int last) {
        int[] sums = answered(q, first, last);
        return part(sums[1], sums[0]);
    }

    private int left(int t) {
        int left = 0;
        for (G g : s.groups) left += g.tries()[t][0];
        return left;
    }

    private int cost(int t) {
        int cost = 0;
        for (int i = 0; i < t; i++) cost += s.penny * left(i);
        return cost;
    }

    private int off(Q q, int t) {
        return shareBy(q, 1, t) - share(q);
    }

    private int[] shares(List<Integer> order) {
        int[] shares = new int[order.size()];
        for (int i = 0; i < shares.length; i++) {
            Q q = s.questions.get(order.get(i));
            shares[i] = share(q);
            for (int j = 0; j < i; j++) shares[i] += 10 * s.questions.get(order.get(j)).bears[q.m];
            if (shares[i] < 0) shares[i] = 0;
            if (shares[i] > 1000) shares[i] = 1000;
        }
        return shares;
    }

    private int leans(List<Integer> order) {
        int leans = 0;
        int[] shares = shares(order);
        for (int i = 0; i < shares.length; i++) leans += Math.abs(shares[i] - share(s.questions.get(order.get(i))));
        return leans;
    }

    private void orders(List<Integer> begun, int rest, List<List<Integer>> all) {
        if (rest == 0) all.add(new ArrayList<>(begun));
        for (int q = 0; q < 8; q++) {
            if ((rest >> q & 1) == 0) continue;
            begun.add(q);
            orders(begun, rest - (1 << q), all);
            begun.remove(begun.size() - 1);
        }
    }

    private long order(long[] a) {
        int set = (int) a[0];
        need(in(a[1], -1, Integer.bitCount(set) - 1), -5);
        need((set & 0xFFFFFFFFL) < 1L << s.questions.size() && Integer.bitCount(set) <= 6, -6);
        List<List<Integer>> all = new ArrayList<>();
        orders(new ArrayList<>(), set, all);
        List<Integer> best = all.get(0);
        for (List<Integer> order : all) if (leans(order) < leans(best)) best = order;
        return a[1] == -1 ? leans(best) : best.get((int) a[1]);
    }

    private long move(Q q, int v) {
        int people = sum(s.groups);
        int none = 0;
        for (G g : s.groups) if (g.view == 2) none += g.count;
        for (int n = 0; n <= none; n++) {
            int toMove = n;
            int yes = 0;
            for (G g : s.groups) {
                int moved = g.view == 2 ? Math.min(toMove, g.count) : 0;
                toMove -= moved;
                yes += q.yes(0, g.glad, moved) + q.yes(g.view, g.glad, g.count - moved);
            }
            if (part(yes, people) >= v) return n;
        }
        return -1;
    }

    private long told(int op, long[] a) {
        switch (op) {
            case 16:
                need(in(a[1], 0, 1), -5);
                need(in(a[0], 0, 9), -6);
                return a[1] == 0 ? answered(null, 1, (int) a[0])[0] : left((int) a[0]);
            case 17: {
                Q q = q(a[0], -1);
                need(in(a[2], 0, 1), -5);
                need(in(a[1], 0, 9), -6);
                return a[2] == 0 ? shareBy(q, 1, (int) a[1]) : off(q, (int) a[1]);
            }
            case 18:
                return hold();
            case 19:
                return order(a);
            case 20: {
                for (int most = 9; most > 0; most--) {
                    for (Q p : s.questions) {
                        for (Q q : s.questions) if (Math.abs(p.bears[q.m]) == most) return 100 * p.m + q.m;
                    }
                }
                return -1;
            }
            case 21: {
                Q p = q(a[0], -1);
                return 1000 - share(p) - share(q(a[1], -1));
            }
            case 22: {
                Q q = q(a[0], -1);
                need(in(a[1], 0, 1000), -6);
                for (int t = 0; t < 10; t++) if (Math.abs(off(q, t)) <= a[1]) return t;
                return -1;
            }
            case 23:
                need(in(a[0], 0, 9), -6);
                return cost((int) a[0]);
            case 24: {
                Q q = q(a[0], -1);
                need(a[1] >= 0, -6);
                for (int off = 0; ; off++) {
                    for (int t = 0; t < 10; t++) if (cost(t) <= a[1] && Math.abs(off(q, t)) == off) return t;
                }
            }
            case 25: {
                int bits = 0;
                for (int g = 0; g < s.groups.size(); g++) {
                    int answers = 0;
                    for (int[] row : s.groups.get(g).tries()) answers += row[1];
                    if (answers == 0) bits += 1 << g;
                }
                return bits;
            }
            case 26: {
                Q q = a[0] == -1 ? null : q(a[0], -1);
                need(in(a[1], 1, 9), -6);
                int t = (int) a[1];
                return q == null ? answered(null, t, t)[0] : shareBy(q, t, t);
            }
            case 27: {
                need(in(a[0], 0, 1000) && in(a[1], 0, 1000), -6);
                int bits = 0;
                for (Q q : s.questions) if (in(share(q), a[0] - a[1], a[0] + a[1])) bits += 1 << q.m;
                return bits;
            }
            case 28: {
                Q q = q(a[0], -1);
                Q other = q(s.half, -1);
                List<G> even = new ArrayList<>();
                List<G> odd = new ArrayList<>();
                for (int g = 0; g < s.groups.size(); g++) (g % 2 == 0 ? even : odd).add(s.groups.get(g));
                return share(q, even) - share(other, odd);
            }
            case 29: {
                Q q = q(a[0], -1);
                for (int apart = 0; apart <= 1000; apart++) {
                    for (Q other : s.questions) {
                        if (other != q && Math.abs(share(q) + share(other) - 1000) == apart) return other.m;
                    }
                }
                return -1;
            }
            case 30:
                need(!s.questions.isEmpty(), -5);
                for (int wrong = 0; ; wrong++) {
                    for (Q q : s.questions) if (Math.abs(wrong(q)) == wrong) return q.m;
                }
            case 31: {
                Q q = q(a[0], -1);
                need(in(a[1], 0, 1000), -6);
                return move(q, (int) a[1]);
            }
            default:
                return inTruth(op, a);
        }
    }

    private int wrongOf(Row row, long n) {
        List<Integer> there = new ArrayList<>();
        for (int i = 0; i < n; i++) {
            int q = (int) row.e[i];
            if (q < 0 || q >= s.questions.size() || there.contains(q)) return i;
            there.add(q);
        }
        return -1;
    }

    private int draw(int n) {
        s.seed = s.seed * 1103515245 + 12345;
        return (s.seed >>> 16) % n;
    }

    private long inTruth(int op, long[] a) {
        switch (op) {
            case 32: {
                Row row = rowIn(a[0]);
                need(a[1] >= 0, -4);
                need(a[1] <= row.e.length, -5);
                need(a[1] <= 20, -6);
                return wrongOf(row, a[1]);
            }
            case 33: {
                Row row = rowIn(a[0]);
                need(a[1] >= 0, -4);
                need(a[1] <= row.e.length && in(a[2], -1, a[1] - 1), -5);
                need(a[1] <= 20 && wrongOf(row, a[1]) == -1, -6);
                List<Integer> order = new ArrayList<>();
                for (int i = 0; i < a[1]; i++) order.add((int) row.e[i]);
                return a[2] == -1 ? leans(order) : shares(order)[(int) a[2]];
            }
            case 34: {
                G g = g(a[0], -1);
                need(in(a[1], 0, 2) && a[1] != g.view && in(a[2], 1, g.count), -6);
                if (a[2] == g.count) {
                    g.view = (int) a[1];
                    return a[0];
                }
                need(s.groups.size() < 10, -7);
                g.count -= (int) a[2];
                s.groups.add(new G((int) a[2], (int) a[1], g.glad, g.home, g.will));
                return s.groups.size() - 1;
            }
            case 35: {
                need(!s.groups.isEmpty() && !s.questions.isEmpty(), -5);
                need(in(a[0], 1, 200), -6);
                int said = 0;
                for (int i = 0; i < a[0]; i++) {
                    G g = s.groups.get(draw(s.groups.size()));
                    if (draw(10) >= g.home) continue;
                    if (draw(10) >= g.will) continue;
                    Q q = s.questions.get(draw(s.questions.size()));
                    s.asked++;
                    if (draw(g.count) < q.yes(g.view, g.glad, g.count)) said++;
                }
                s.yeses += said;
                return said;
            }
            case 36: {
                int was = s.seed;
                s.seed = (int) a[0];
                return was;
            }
            case 37: {
                ran.clear();
                if (!in(a[0], 0, s.questions.size() - 1) || !in(a[1], 0, 2)) return 0;
                Q q = s.questions.get((int) a[0]);
                q.model = this;
                int x = (int) a[2];
                return a[1] == 0 ? q.asks(x) : a[1] == 1 ? q.leans(x) : q.sums(x);
            }
            case 38:
                return in(a[0], 0, Math.min(20, ran.size()) - 1) ? ran.get((int) a[0]) : -1;
            case 39:
                image = s.copy();
                return s.questions.size();
            case 40:
                need(image != null, -6);
                s = image.copy();
                for (int i = 0; i < 8; i++) {
                    if (shelves[i] instanceof Integer && (Integer) shelves[i] >= s.questions.size()) shelves[i] = null;
                }
                return s.questions.size();
            default: {
                if (in(a[0], 11, 17)) return refused[(int) a[0] - 10];
                if (!in(a[0], 0, 8)) return -1;
                return new int[] {s.questions.size(), s.groups.size(), sum(s.groups), s.penny, s.half, s.asked,
                    s.yeses, s.seed, ran.size()}[(int) a[0]];
            }
        }
    }

    private long town(long[] a) {
        Row row = rowIn(a[0]);
        StringBuilder text = new StringBuilder();
        for (long e : row.e) {
            int letter = (int) e;
            text.append(letter > 0 && letter < 128 ? (char) letter : '\u00FF');
        }
        State draft = s.copy();
        try {
            int items = read(text.toString(), draft);
            s = draft;
            fault = -1;
            return items;
        } catch (Fault f) {
            fault = f.place;
            throw new Refused(-6);
        }
    }

    /** Each ITEM by a pattern of its word and how many NUMBERS it has. */
    private static int read(String text, State draft) {
        String[] words = {"group", "question", "bears", "against", "penny", "half"};
        int[] numbers = {5, 2, 3, 3, 1, 1};
        int at = 0;
        for (int items = 1; ; items++) {
            int word = 0;
            int most = 0;
            for (int w = 0; w < words.length; w++) {
                int alike = 0;
                while (alike < words[w].length() && text.startsWith(words[w].substring(0, alike + 1), at)) alike++;
                if (alike > most) {
                    most = alike;
                    word = w;
                }
            }
            if (most < words[word].length()) throw new Fault(at + most);
            if (word == 0 && draft.groups.size() == 10 || word == 1 && draft.questions.size() == 8) throw new Fault(at);
            at += most;
            int[] n = new int[5];
            for (int i = 0; i < numbers[word]; i++) {
                if (at >= text.length() || text.charAt(at) != ' ') throw new Fault(at);
                int end = at + 1;
                while (end < text.length() && end < at + 4 && Character.isDigit(text.charAt(end))) end++;
                if (end == at + 1) throw new Fault(end);
                n[i] = Integer.parseInt(text.substring(at + 1, end));
                if (!numberFits(draft, word, i, n)) throw new Fault(at + 1);
                at = end;
            }
            tell(draft, word, n);
            if (at == text.length()) return items;
            if (text.charAt(at) != ';') throw new Fault(at);
            at++;
        }
    }

    private static boolean numberFits(State draft, int word, int i, int[] n) {
        switch (word) {
            case 0:
                return in(n[i], i == 0 ? 1 : 0, new int[] {999, 2, 10, 10, 10}[i]);
            case 1:
                return in(n[i], 0, i == 0 ? 6 : 9);
            case 4:
                return n[i] <= 99;
            case 5:
                return n[i] <= 7;
            default:
                if (i == 2) return n[2] <= 9;
                return n[i] < draft.questions.size() && (i == 0 || n[0] != n[1]);
        }
    }

    private static void tell(State draft, int word, int[] n) {
        switch (word) {
            case 0:
                draft.groups.add(new G(n[0], n[1], n[2], n[3], n[4]));
                break;
            case 1:
                add(draft, n[0], n[1]);
                break;
            case 2:
                draft.questions.get(n[0]).bears[n[1]] = n[2];
                break;
            case 3:
                draft.questions.get(n[0]).bears[n[1]] = -n[2];
                break;
            case 4:
                draft.penny = n[0];
                break;
            default:
                draft.half = n[0];
        }
    }
}
