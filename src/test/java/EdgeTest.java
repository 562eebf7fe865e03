import java.io.IOException;
import java.nio.file.Files;
import java.nio.file.Path;
import java.util.ArrayList;
import java.util.List;
import java.util.stream.Stream;

/** Each sentence of the document that names a boundary case has a test in src/test/edges, and each of these tests holds. */
public final class EdgeTest {
    private final Document document;
    private final List<Edge> edges = new ArrayList<>();
    /** What the files quote of each section: the sentences with a test, and those that name no boundary. */
    private final List<String[]> quotes = new ArrayList<>();

    private EdgeTest(Document document) {
        this.document = document;
    }

    public static void main(String[] args) throws IOException {
        EdgeTest test = new EdgeTest(Document.read(Path.of("../shared/DOC.md")));
        try (Stream<Path> files = Files.list(Path.of("src/test/edges"))) {
            for (Path file : files.sorted().toList()) {
                test.readEdges(file);
            }
        }
        test.checkQuotes();
        test.checkThatNoSentenceIsLeft();
        test.edges.forEach(EdgeTest::check);
        System.out.println(test.edges.size() + " tests of sentences");
        Check.end();
    }

    /** A test that cannot go on is wrong, and the others are made all the same. */
    private static void check(Edge edge) {
        try {
            edge.check();
        } catch (RuntimeException e) {
            Check.wrong(edge.place() + ": " + e);
        }
    }

    // ---- the files ----

    /** "#" begins a section, ">" quotes a sentence that the lines below test, "~" one that names no boundary, "//" a comment. */
    private void readEdges(Path file) throws IOException {
        String section = "";
        List<Step> steps = new ArrayList<>();
        int number = 0;
        for (String line : Files.readAllLines(file)) {
            number++;
            String place = file.getFileName() + ":" + number;
            if (line.startsWith("# ")) {
                section = line.substring(2).trim();
            } else if (line.startsWith("> ")) {
                steps = new ArrayList<>();
                edges.add(new Edge(section, line.substring(2).trim(), place, steps));
                quotes.add(new String[] {section, line.substring(2).trim(), place});
            } else if (line.startsWith("~ ")) {
                quotes.add(new String[] {section, line.substring(2).trim(), place});
            } else if (!line.isBlank() && !line.startsWith("//")) {
                steps.addAll(Step.read(line));
            }
        }
    }

    // ---- the document and the files ----

    private void checkQuotes() {
        for (String[] quote : quotes) {
            if (!document.says(quote[0], quote[1])) {
                Check.wrong(quote[2] + ": the document does not say in " + quote[0] + ": " + quote[1]);
            }
        }
        for (Edge edge : edges) {
            Check.equal(false, edge.steps().isEmpty(), edge.place() + ": a test without calls");
        }
    }

    private void checkThatNoSentenceIsLeft() {
        for (String heading : document.headings()) {
            for (String sentence : document.sentencesOf(heading)) {
                if (!Document.isParameterList(sentence) && !isQuoted(heading, sentence)) {
                    Check.wrong("no test quotes, in " + heading + ": " + sentence);
                }
            }
        }
    }

    private boolean isQuoted(String heading, String sentence) {
        for (String[] quote : quotes) {
            if (quote[0].equals(heading) && (sentence.contains(quote[1]) || quote[1].contains(sentence))) {
                return true;
            }
        }
        return false;
    }
}
