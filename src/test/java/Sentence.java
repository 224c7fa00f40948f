import java.util.ArrayList;
import java.util.List;

/** A test of one sentence of the document: calls on a new object, with what is due. */
final class Sentence {
    /** The document promises nothing of later calls on one object. */
    static final int MOST_CALLS = 512;

    final int promise;
    final String quote;
    final List<Step> steps = new ArrayList<>();

    Sentence(int promise, String quote) {
        this.promise = promise;
        this.quote = quote;
    }

    String name() {
        return "promise " + promise + ": " + quote;
    }

    /** What is not as due; none, if the sentence holds. */
    List<String> broken() {
        List<String> broken = new ArrayList<>();
        AskedTheOtherWayAbout x = new AskedTheOtherWayAbout();
        int[] refusals = new int[8];
        for (int i = 0; i < steps.size(); i++) {
            Step step = steps.get(i);
            long got = step.makeOn(x);
            if (step.isDue && got != step.due) {
                broken.add(step.place + ": " + step.call + " answered " + got + ", due is " + step.due);
            }
            if (step.isRefused) {
                refusals[step.refusalCounted()]++;
                broken.addAll(changedBy(i));
            }
        }
        for (int n = 1; n < refusals.length; n++) {
            int counted = x.status(10 + n);
            if (counted != refusals[n]) {
                broken.add("refusals -" + n + " counted: " + counted + ", due is " + refusals[n]);
            }
        }
        if (steps.size() + refusals.length > MOST_CALLS) broken.add("more than " + MOST_CALLS + " calls");
        if (steps.stream().noneMatch(step -> step.isDue)) broken.add("nothing is due");
        return broken;
    }

    /** What a refused step changed beside its count: two objects, one of which has not been asked that. */
    private List<String> changedBy(int refused) {
        Step step = steps.get(refused);
        List<String> without = Snapshot.of(steps.subList(0, refused), step.mayTellFault());
        List<String> with = Snapshot.of(steps.subList(0, refused + 1), step.mayTellFault());
        List<String> changed = new ArrayList<>();
        for (int i = 0; i < Math.max(with.size(), without.size()); i++) {
            String before = i < without.size() ? without.get(i) : "nothing";
            String after = i < with.size() ? with.get(i) : "nothing";
            if (!before.equals(after)) {
                changed.add(step.place + ": refused " + step.call + " changed " + before + " to " + after);
            }
        }
        return changed;
    }
}
