/** Counts the answers that are not the ones that are due, and helps to make towns. */
final class Checks {
    private int wrong;
    private int told;

    void due(String call, long got, long want) {
        told++;
        if (got != want) {
            wrong++;
            System.out.println(call + " answered " + got + ", due is " + want);
        }
    }

    void due(String call, String got, String want) {
        told++;
        if (!got.equals(want)) {
            wrong++;
            System.out.println(call + " answered " + got + ", due is " + want);
        }
    }

    void end() {
        System.out.println(told + " answers, " + wrong + " not as due");
        if (wrong != 0 || told == 0) System.exit(1);
    }

    /** SHELF s holds a ROW of bytes, the letters of the text. */
    static void write(AskedTheOtherWayAbout x, int s, String text) {
        x.row(s, 0, text.length());
        for (int i = 0; i < text.length(); i++) {
            x.set(s, i, text.charAt(i));
        }
    }

    /** What town() answers to a text, which SHELF 7 then holds. */
    static int tell(AskedTheOtherWayAbout x, String text) {
        write(x, 7, text);
        return x.town(7);
    }

    /** SHELF s holds a ROW of ints. */
    static void line(AskedTheOtherWayAbout x, int s, int... elements) {
        x.row(s, 2, elements.length);
        for (int i = 0; i < elements.length; i++) {
            x.set(s, i, elements[i]);
        }
    }

    /** A QUESTION of each KIND, and 40 of VIEW YES, 25 of VIEW NO, 35 of VIEW NONE, who never answer. */
    static AskedTheOtherWayAbout hundred() {
        AskedTheOtherWayAbout x = new AskedTheOtherWayAbout();
        int[] a = {0, 0, 0, 3, 2, 4, 1};
        for (int kind = 0; kind < a.length; kind++) {
            x.question(kind, a[kind]);
        }
        x.group(40, 0, 2, 5, 8);
        x.group(25, 1, 4, 10, 10);
        x.group(35, 2, 6, 3, 0);
        return x;
    }

    /** How often each REFUSAL was counted, -1 first. */
    static String refusals(AskedTheOtherWayAbout x) {
        StringBuilder counts = new StringBuilder();
        for (int what = 11; what <= 17; what++) {
            if (what > 11) counts.append(' ');
            counts.append(x.status(what));
        }
        return counts.toString();
    }

    static String trace(AskedTheOtherWayAbout x) {
        StringBuilder bodies = new StringBuilder();
        for (int i = 0; x.trace(i) != AskedTheOtherWayAbout.NONE; i++) {
            if (i > 0) bodies.append(' ');
            bodies.append(x.trace(i));
        }
        return bodies.toString();
    }
}
