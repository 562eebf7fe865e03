import java.io.IOException;
import java.nio.file.Files;
import java.nio.file.Path;
import java.util.ArrayList;
import java.util.LinkedHashMap;
import java.util.List;
import java.util.Map;
import java.util.Set;

/** The sentences of the document that say what the class does, section by section. */
final class Document {
    private static final Set<String> OTHER_SECTIONS = Set.of("The public face", "Not promised");

    private final Map<String, List<String>> sections = new LinkedHashMap<>();

    static Document read(Path path) throws IOException {
        Document document = new Document();
        for (String part : ("\n" + Files.readString(path)).split("\n## ")) {
            int headingEnd = part.indexOf('\n');
            String heading = part.substring(0, headingEnd).trim();
            if (!heading.isEmpty() && !OTHER_SECTIONS.contains(heading)) {
                document.sections.put(heading, sentences(part.substring(headingEnd)));
            }
        }
        document.sections.remove("");
        return document;
    }

    private static List<String> sentences(String body) {
        List<String> sentences = new ArrayList<>();
        for (String paragraph : body.split("\n\\s*\n")) {
            String text = paragraph.trim().replaceAll("\\s+", " ");
            // What a parameter is, is told in a list; what a method is called, before the first sentence.
            if (!text.startsWith("- ")) {
                for (String sentence : text.replaceFirst("^`[^`]*\\([^`]*\\)[^`]*`: ", "").split("(?<=\\.) (?=[A-Z\"])")) {
                    addSentence(sentences, sentence.trim());
                }
            } else {
                addSentence(sentences, text);
            }
        }
        return sentences;
    }

    /** Leaves out the empty text and the label of a paragraph, such as "Input buffer.". */
    private static void addSentence(List<String> sentences, String sentence) {
        if (!sentence.isEmpty() && !sentence.matches("\\w+( \\w+)?\\.")) {
            sentences.add(sentence);
        }
    }

    Set<String> headings() {
        return sections.keySet();
    }

    /** A list of parameters may be quoted, but not each one names an edge. */
    static boolean isParameterList(String sentence) {
        return sentence.startsWith("- ");
    }

    List<String> sentencesOf(String heading) {
        return sections.getOrDefault(heading, List.of());
    }

    boolean says(String heading, String quote) {
        return String.join(" ", sentencesOf(heading)).contains(quote);
    }
}
