import java.io.IOException;
import java.nio.file.Files;
import java.nio.file.Path;
import java.util.LinkedHashMap;
import java.util.Map;

/** The document by its sections. What is quoted is struck out, so that what stays has no test. */
final class Document {
    private static final String STRUCK = " | ";

    private final Map<String, StringBuilder> sections = new LinkedHashMap<>();

    Document(Path file) throws IOException {
        StringBuilder section = new StringBuilder();
        for (String line : Files.readAllLines(file)) {
            if (line.startsWith("## ")) {
                section = new StringBuilder();
                sections.put(line.substring(3), section);
            } else {
                section.append(wordsOf(line)).append(' ');
            }
        }
        // The face is no sentence (FaceTest looks at it), and what is not promised cannot be tested.
        sections.remove("The public face");
        sections.remove("Not promised");
    }

    /** A line without its marks, and without the signature that a promise begins with. */
    private static String wordsOf(String line) {
        return line.replaceFirst("^`[^`]*\\)`: ", "").replaceFirst("^- ", "").replaceAll("[`\"]", "");
    }

    /** Strikes the words out of the section; answers whether they stood there. */
    boolean strike(String section, String words) {
        StringBuilder text = sections.get(section);
        int at = text == null ? -1 : text.indexOf(words);
        if (at >= 0) {
            text.replace(at, at + words.length(), STRUCK);
        }
        return at >= 0;
    }

    /** What stays, by section. */
    Map<String, String> rest() {
        Map<String, String> rest = new LinkedHashMap<>();
        sections.forEach((section, text) -> {
            String words = text.toString().replaceAll("[|.;:, ]+", " ").trim();
            if (!words.isEmpty()) {
                rest.put(section, words);
            }
        });
        return rest;
    }
}
