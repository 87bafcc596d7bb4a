import java.io.IOException;
import java.nio.file.Files;
import java.nio.file.Path;
import java.util.List;

/**
 * Each sentence of the document alone: src/test/sentences.txt quotes them in their order, each with its runs.
 * A sentence of the document that is not quoted there fails the test; so does a quote that the document does not have.
 */
public final class SentencesTest {
    private static final Path FILE = Path.of("src/test/sentences.txt");
    private static final Path DOCUMENT = Path.of("../shared/DOC.md");

    private final Checks checks = new Checks();
    private final Document document;
    private String section = "";
    private String sentence = "";
    private int sentences = 0;
    private int runs = 0;

    private SentencesTest() throws IOException {
        document = new Document(DOCUMENT);
    }

    public static void main(String[] args) throws IOException {
        new SentencesTest().make(Files.readAllLines(FILE));
    }

    private void make(List<String> lines) {
        for (int i = 0; i < lines.size(); i++) {
            StringBuilder line = new StringBuilder(lines.get(i));
            int number = i + 1;
            while (i + 1 < lines.size() && lines.get(i + 1).startsWith(" ")) {
                i++;
                line.append(' ').append(lines.get(i).trim());
            }
            read(number, line.toString());
        }
        endSentence();
        document.rest().forEach((where, words) ->
            checks.holds("there is a test for the sentence in '" + where + "': " + words, false));
        System.out.println(sentences + " sentences");
        checks.end();
    }

    private void read(int number, String line) {
        if (line.startsWith("## ")) {
            endSentence();
            section = line.substring(3);
        } else if (line.startsWith("> ")) {
            endSentence();
            sentence = line.substring(2);
            sentences++;
            runs = 0;
            quote(number, sentence);
        } else if (line.startsWith("~ ")) {
            endSentence();
            quote(number, line.substring(2));
        } else if (!line.isEmpty() && !line.startsWith("#")) {
            runs++;
            checks.holds("line " + number + " stands below a sentence", !sentence.isEmpty());
            Run.make(checks, "line " + number + ", " + section + ", " + sentence, line);
        }
    }

    private void endSentence() {
        checks.holds("the sentence has a run: " + sentence, sentence.isEmpty() || runs > 0);
        sentence = "";
    }

    private void quote(int number, String words) {
        checks.holds("line " + number + ": the document says in '" + section + "': " + words,
            document.strike(section, words));
    }
}
