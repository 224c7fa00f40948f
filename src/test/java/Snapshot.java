import java.util.ArrayList;
import java.util.List;

/** All that can be seen of an object after some calls, but for how many REFUSALS there were. */
final class Snapshot {
    /** Of a longer ROW the elements behind these are not looked at, but for its last: there is no call left for them. */
    private static final int MOST_ELEMENTS_SEEN = 24;

    private final AskedTheOtherWayAbout x = new AskedTheOtherWayAbout();
    private final List<String> seen = new ArrayList<>();
    private int calls;

    private Snapshot() {
    }

    static List<String> of(List<Step> steps, boolean butForFault) {
        Snapshot snapshot = new Snapshot();
        for (Step step : steps) {
            step.makeOn(snapshot.x);
        }
        snapshot.calls = steps.size();
        snapshot.lookAtAll(butForFault);
        if (snapshot.calls > Sentence.MOST_CALLS) snapshot.seen.add(snapshot.calls + " calls are too many");
        return snapshot.seen;
    }

    private void lookAtAll(boolean butForFault) {
        lookAtTown();
        see("status(8)", x.status(8));
        if (!butForFault) see("fault()", x.fault());
        long body = 0;
        for (int i = 0; body != AskedTheOtherWayAbout.NONE; i++) {
            body = see("trace(" + i + ")", x.trace(i));
        }
        for (int s = 0; s < 8; s++) {
            if (see("holds(" + s + ")", x.holds(s)) >= 100) lookAtRow(s);
        }
        lookAtBears();
        see("restore()", x.restore());
        lookAtTown();
        lookAtBears();
    }

    private long see(String call, long answer) {
        calls++;
        seen.add(call + " = " + answer);
        return answer;
    }

    private void lookAtTown() {
        for (int what = 0; what < 8; what++) {
            see("status(" + what + ")", x.status(what));
        }
        long groups = see("GROUPS", x.status(1));
        for (int g = 0; g < groups; g++) {
            for (int what = 0; what < 5; what++) {
                see("groupOf(" + g + ", " + what + ")", x.groupOf(g, what));
            }
        }
        long questions = see("QUESTIONS", x.status(0));
        for (int q = 0; q < questions; q++) {
            see("questionOf(" + q + ", 0)", x.questionOf(q, 0));
            see("questionOf(" + q + ", 1)", x.questionOf(q, 1));
        }
    }

    private void lookAtRow(int s) {
        int size = sizeOf(s);
        seen.add("elements in " + s + ": " + size);
        for (int i = 0; i < size && i < MOST_ELEMENTS_SEEN; i++) {
            see("element(" + s + ", " + i + ")", x.element(s, i));
        }
        if (size > MOST_ELEMENTS_SEEN) see("element(" + s + ", the last)", x.element(s, size - 1));
    }

    /** None can be copied from the end on, but not from behind it. */
    private int sizeOf(int s) {
        int size = 0;
        for (int step = 128; step > 0; step /= 2) {
            calls++;
            if (x.copy(s, s, size + step, size + step, 0) == 1) size += step;
        }
        return size;
    }

    /** It leaves no BEARS behind. */
    private void lookAtBears() {
        long questions = see("QUESTIONS", x.status(0));
        for (int p = 0; p < questions; p++) {
            for (int q = 0; q < questions; q++) {
                if (p != q) see("bears(" + p + ", " + q + ", 0)", x.bears(p, q, 0));
            }
        }
    }
}
