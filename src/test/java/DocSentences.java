import java.util.ArrayList;
import java.util.LinkedHashMap;
import java.util.List;
import java.util.Map;

/** The document's sentences, section by section, each in one line; each point of a list is one. */
final class DocSentences {
    private final Map<String, List<String>> sections = new LinkedHashMap<>();
    private List<String> section = new ArrayList<>();
    private final StringBuilder paragraph = new StringBuilder();

    private DocSentences() {
    }

    static Map<String, List<String>> of(List<String> lines) {
        DocSentences sentences = new DocSentences();
        boolean isCode = false;
        for (String line : lines) {
            isCode ^= line.startsWith("```");
            if (!isCode && !line.startsWith("```")) {
                sentences.addLine(line.trim());
            }
        }
        sentences.endParagraph();
        return sentences.sections;
    }

    private void addLine(String line) {
        boolean isTitle = line.startsWith("## ");
        if (isTitle || line.isEmpty() || line.startsWith("- ")) {
            endParagraph();
        }
        if (isTitle) {
            section = new ArrayList<>();
            sections.put(line.substring(3), section);
        } else if (!line.isEmpty()) {
            paragraph.append(line).append(' ');
        }
    }

    private void endParagraph() {
        String text = paragraph.toString().trim();
        paragraph.setLength(0);
        if (text.startsWith("- ")) {
            section.add(text.substring(2));
            return;
        }
        // A promise begins with its method, which is no sentence.
        for (String sentence : text.replaceFirst("^`[^`]*`: ", "").split("(?<=[.)]) (?=[A-Z(])")) {
            // Words that say of what the next sentences are: "Rows.", "Joined streams."
            if (sentence.split(" ").length > 2) {
                section.add(sentence);
            }
        }
    }
}
