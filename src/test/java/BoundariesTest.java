import java.io.IOException;
import java.nio.file.Files;
import java.nio.file.Path;
import java.util.ArrayList;
import java.util.List;
import java.util.Map;

/**
 * The sentences of the document that name a boundary, each with a test of its own under src/test/boundaries; and that
 * none of the document's sentences is left out there. Behind each refused call all that the book holds is looked over.
 */
public final class BoundariesTest {
    private BoundariesTest() {
    }

    public static void main(String[] args) throws IOException {
        Map<String, List<String>> document = DocSentences.of(Files.readAllLines(Path.of("../shared/DOC.md")));
        BoundaryFiles files = BoundaryFiles.read(Path.of("src/test/boundaries"));
        List<Boundary> all = new ArrayList<>(files.tests);
        all.addAll(files.without);
        for (Boundary one : all) {
            checkItStandsThere(document, one);
        }
        for (Map.Entry<String, List<String>> section : document.entrySet()) {
            if (section.getKey().equals("Terms") || section.getKey().startsWith("Promise ")) {
                checkNoneIsLeftOut(section.getKey(), section.getValue(), all);
            }
        }
        for (Boundary test : files.tests) {
            test.check();
        }
        System.out.println(files.tests.size() + " sentences have a test of their own");
        Checks.end("BoundariesTest");
    }

    private static void checkItStandsThere(Map<String, List<String>> document, Boundary one) {
        List<String> section = document.getOrDefault(one.section, List.of());
        long found = section.stream().filter(sentence -> sentence.contains(one.sentence)).count();
        Checks.same(one.section + " of the document has \"" + one.sentence + "\"", found, 1L);
    }

    private static void checkNoneIsLeftOut(String section, List<String> sentences, List<Boundary> all) {
        for (String sentence : sentences) {
            boolean isNamed = all.stream()
                    .anyMatch(one -> one.section.equals(section) && sentence.contains(one.sentence));
            Checks.same(section + ", \"" + sentence + "\" has a test", isNamed, true);
        }
    }
}
