import java.io.IOException;
import java.nio.file.Files;
import java.nio.file.Path;
import java.util.ArrayList;
import java.util.List;
import java.util.regex.Matcher;
import java.util.regex.Pattern;

/** The document's Terms and promises, and which of their letters are quoted by a test. White space counts as one blank. */
final class Document {
    private static final Pattern PROMISE = Pattern.compile("## Promise (\\d+): \\w+ |## Promise (\\d+): A new object ");
    /** Headings, and the faces of the calls: they tell what a sentence is about. */
    private static final Pattern NO_SENTENCE = Pattern.compile(
            "## Terms|## Promise \\d+: (?:A new object|\\w+)|==== (?:1. THE TOWN|2. WHAT IS SAID|3. WHAT COMES OF IT)|"
            + "```text|```|`[\\w ,()]+\\)`:|Details\\.");
    private static final int TERMS = 0;

    private final String text;
    private final boolean[] quoted;
    /** Where the Terms and each promise begin, and where the last ends. */
    private final int[] begins;

    private Document(String text, int[] begins) {
        this.text = text;
        this.begins = begins;
        quoted = new boolean[text.length()];
    }

    static Document read(Path file) throws IOException {
        String text = Files.readString(file).replaceAll("\\s+", " ");
        List<Integer> begins = new ArrayList<>();
        begins.add(text.indexOf("## Terms"));
        Matcher promise = PROMISE.matcher(text);
        while (promise.find()) {
            begins.add(promise.start());
        }
        begins.add(text.indexOf("## Not promised"));
        Document document = new Document(text, begins.stream().mapToInt(Integer::intValue).toArray());
        Matcher none = NO_SENTENCE.matcher(text);
        while (none.find()) {
            document.mark(none.start(), none.end());
        }
        return document;
    }

    int promises() {
        return begins.length - 2;
    }

    /** Whether a promise, or the Terms, tell all parts of a quote so; they are quoted then. */
    boolean quote(int promise, String quote) {
        boolean found = promise > TERMS && promise <= promises();
        for (String part : quote.split(" \\| ")) {
            found = found && (quoteIn(promise, part) || quoteIn(TERMS, part));
        }
        return found;
    }

    private boolean quoteIn(int part, String sentence) {
        boolean found = false;
        int at = text.indexOf(sentence, begins[part]);
        while (at >= 0 && at + sentence.length() <= begins[part + 1]) {
            mark(at, at + sentence.length());
            found = true;
            at = text.indexOf(sentence, at + 1);
        }
        return found;
    }

    private void mark(int from, int to) {
        for (int i = from; i < to; i++) {
            quoted[i] = true;
        }
    }

    /** What no test quotes, but for signs between the quotes. */
    List<String> unquoted() {
        List<String> parts = new ArrayList<>();
        StringBuilder part = new StringBuilder();
        for (int i = begins[TERMS]; i <= begins[begins.length - 1]; i++) {
            if (i < begins[begins.length - 1] && !quoted[i]) {
                part.append(text.charAt(i));
            } else {
                if (part.chars().anyMatch(Character::isLetterOrDigit)) parts.add(part.toString().strip());
                part.setLength(0);
            }
        }
        return parts;
    }
}
