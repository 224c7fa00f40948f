import java.io.IOException;
import java.nio.file.Files;
import java.nio.file.Path;
import java.util.ArrayList;
import java.util.HashSet;
import java.util.List;
import java.util.Set;
import java.util.stream.Collectors;
import java.util.stream.Stream;

/**
 * A test for each sentence of the document, by the files of src/test/sentences. It is run from the project's folder,
 * and fails if a sentence does not hold, is not one of the document, or is not quoted by any test.
 */
public final class SentencesTest {
    private static final Path SENTENCES = Path.of("src/test/sentences");
    private static final Path DOCUMENT = Path.of("../shared/DOC.md");

    public static void main(String[] args) throws IOException {
        Document document = Document.read(DOCUMENT);
        int[] tests = new int[document.promises() + 1];
        Set<String> names = new HashSet<>();
        int failed = 0;
        for (Sentence sentence : all()) {
            List<String> broken = new ArrayList<>();
            if (document.quote(sentence.promise, sentence.quote)) {
                tests[sentence.promise]++;
            } else {
                broken.add("the document does not say so there");
            }
            if (!names.add(sentence.name())) broken.add("there is another test of that name");
            broken.addAll(sentence.broken());
            if (!broken.isEmpty()) failed++;
            tell(sentence.name(), broken);
        }
        for (int promise = 1; promise < tests.length; promise++) {
            if (tests[promise] == 0) failed++;
            tell("promise " + promise, tests[promise] == 0 ? List.of("has no test") : List.of());
        }
        failed += document.unquoted().size();
        tell("not quoted by any test", document.unquoted());
        System.out.println(names.size() + " sentences of " + document.promises() + " promises, " + failed + " failed");
        if (failed != 0) System.exit(1);
    }

    private static List<Sentence> all() throws IOException {
        List<Path> files;
        try (Stream<Path> found = Files.list(SENTENCES)) {
            files = found.sorted().collect(Collectors.toList());
        }
        List<Sentence> sentences = new ArrayList<>();
        for (Path file : files) {
            sentences.addAll(SentenceReader.read(file));
        }
        return sentences;
    }

    private static void tell(String name, List<String> broken) {
        if (broken.isEmpty()) return;
        System.out.println(name);
        for (String what : broken) {
            System.out.println("    " + what);
        }
    }
}
