import java.io.IOException;
import java.nio.file.Files;
import java.nio.file.Path;
import java.util.ArrayList;
import java.util.List;
import java.util.regex.Matcher;
import java.util.regex.Pattern;

/** Reads the files of src/test/sentences; README.md tells what a line of them may be. */
final class SentenceReader {
    private static final Pattern HEAD = Pattern.compile("== (\\d+) (.+)");
    private static final Pattern TIMES = Pattern.compile("(\\d+) times (.+)");
    private static final Pattern CALL = Pattern.compile("(\\w+\\(.*\\))(?: ([=!]) (\\S+))?");
    private static final Pattern TELL = Pattern.compile("tell \"(.*)\" (=|fault) (\\d+)");
    private static final Pattern EARLY = Pattern.compile("early \"(.*)\"");
    private static final Pattern ROW = Pattern.compile("row (\\d) (bytes|shorts|ints|longs):(.*)");
    private static final Pattern LETTERS = Pattern.compile("letters (\\d) (bytes|shorts|ints|longs): \"(.*)\"");
    private static final Pattern TRACE = Pattern.compile("trace:(.*)");
    private static final List<String> SORTS = List.of("bytes", "shorts", "ints", "longs");
    /** A QUESTION of each KIND, and 40 of VIEW YES, 25 of VIEW NO, 35 of VIEW NONE, who never answer. */
    private static final String[] HUNDRED = {
        "question(0, 0)", "question(1, 0)", "question(2, 0)", "question(3, 3)", "question(4, 2)", "question(5, 4)",
        "question(6, 1)", "group(40, 0, 2, 5, 8)", "group(25, 1, 4, 10, 10)", "group(35, 2, 6, 3, 0)",
    };
    /** Ten of VIEW YES, who are in every other time, and ten of VIEW NO, who are in at once; all ANSWER then. */
    private static final String[] TWENTY = {
        "question(0, 0)", "question(2, 0)", "group(10, 0, 0, 5, 10)", "group(10, 1, 0, 10, 10)",
    };

    private final List<Sentence> sentences = new ArrayList<>();
    private Sentence sentence;
    /** The file and its line. */
    private String place;

    static List<Sentence> read(Path file) throws IOException {
        SentenceReader reader = new SentenceReader();
        int line = 0;
        for (String text : Files.readAllLines(file)) {
            line++;
            reader.place = file.getFileName() + ":" + line;
            if (!text.isBlank() && !text.startsWith("#")) reader.readLine(text.strip());
        }
        return reader.sentences;
    }

    private void readLine(String text) {
        Matcher head = HEAD.matcher(text);
        if (head.matches()) {
            sentence = new Sentence(Integer.parseInt(head.group(1)), head.group(2));
            sentences.add(sentence);
        } else if (sentence == null || !readStep(text)) {
            throw new IllegalArgumentException(place + " can't be read: " + text);
        }
    }

    private boolean readStep(String text) {
        Matcher times = TIMES.matcher(text);
        if (!times.matches()) return readOne(text);
        boolean read = true;
        for (int i = 0; i < Integer.parseInt(times.group(1)); i++) {
            read &= readOne(times.group(2));
        }
        return read;
    }

    private boolean readOne(String text) {
        return readTown(text) || readCall(text) || readTell(text) || readEarly(text) || readRow(text)
                || readTrace(text);
    }

    private boolean readTown(String text) {
        if (!text.equals("hundred") && !text.equals("twenty")) return false;
        for (String call : text.equals("hundred") ? HUNDRED : TWENTY) {
            sentence.steps.add(Step.made(call, place));
        }
        return true;
    }

    private boolean readCall(String text) {
        Matcher call = CALL.matcher(text);
        if (!call.matches()) return false;
        if (call.group(2) == null) {
            sentence.steps.add(Step.made(call.group(1), place));
        } else if (call.group(2).equals("=")) {
            sentence.steps.add(Step.answered(call.group(1), place, Step.number(call.group(3))));
        } else {
            sentence.steps.add(Step.refused(call.group(1), place, Step.number(call.group(3))));
        }
        return true;
    }

    private boolean readTell(String text) {
        Matcher tell = TELL.matcher(text);
        if (!tell.matches()) return false;
        int number = Integer.parseInt(tell.group(3));
        if (tell.group(2).equals("=")) {
            writeLetters(7, 0, tell.group(1));
            sentence.steps.add(Step.answered("town(7)", place, number));
            sentence.steps.add(Step.answered("fault()", place, -1));
        } else {
            tellWithFault(tell.group(1), number);
        }
        return true;
    }

    /** Each text that such a text begins with ends too early. */
    private boolean readEarly(String text) {
        Matcher early = EARLY.matcher(text);
        if (!early.matches()) return false;
        for (int end = 0; end < early.group(1).length(); end++) {
            tellWithFault(early.group(1).substring(0, end), end);
        }
        return true;
    }

    private void tellWithFault(String text, int fault) {
        writeLetters(7, 0, text);
        sentence.steps.add(Step.refused("town(7)", place, -6));
        sentence.steps.add(Step.answered("fault()", place, fault));
    }

    private boolean readRow(String text) {
        Matcher letters = LETTERS.matcher(text);
        if (letters.matches()) {
            writeLetters(Integer.parseInt(letters.group(1)), SORTS.indexOf(letters.group(2)), letters.group(3));
            return true;
        }
        Matcher row = ROW.matcher(text);
        if (!row.matches()) return false;
        String elements = row.group(3).strip();
        write(Integer.parseInt(row.group(1)), SORTS.indexOf(row.group(2)),
                elements.isEmpty() ? new String[0] : elements.split("\\s+"));
        return true;
    }

    private boolean readTrace(String text) {
        Matcher trace = TRACE.matcher(text);
        if (!trace.matches()) return false;
        String bodies = trace.group(1).strip();
        int ran = 0;
        for (String body : bodies.isEmpty() ? new String[0] : bodies.split("\\s+")) {
            sentence.steps.add(Step.answered("trace(" + ran + ")", place, Long.parseLong(body)));
            ran++;
        }
        sentence.steps.add(Step.answered("trace(" + ran + ")", place, -1));
        sentence.steps.add(Step.answered("status(8)", place, ran));
        return true;
    }

    private void writeLetters(int shelf, int sort, String text) {
        String[] elements = new String[text.length()];
        for (int i = 0; i < elements.length; i++) {
            elements[i] = String.valueOf((int) text.charAt(i));
        }
        write(shelf, sort, elements);
    }

    private void write(int shelf, int sort, String[] elements) {
        sentence.steps.add(Step.answered("row(" + shelf + ", " + sort + ", " + elements.length + ")", place, 1));
        for (int i = 0; i < elements.length; i++) {
            sentence.steps.add(Step.answered("set(" + shelf + ", " + i + ", " + elements[i] + ")", place, 1));
        }
    }
}
