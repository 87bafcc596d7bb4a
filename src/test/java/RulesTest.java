import java.io.IOException;
import java.nio.file.Files;
import java.nio.file.Path;
import java.util.regex.Matcher;
import java.util.regex.Pattern;

/** What of ../shared/LANGUAGE.md can be seen in the text of the program; it runs in the project's folder. */
public final class RulesTest {
    private static final Checks CHECKS = new Checks();
    private static final String[] FORBIDDEN = {"throw", "throws", "try", "catch", "finally", "synchronized", "assert",
        "import", "package", "record", "enum", "interface", "hashCode", "toString", "System", "Thread", "Random",
        "double", "float", "protected", "instanceof", "yield", "var", "[a-zA-Z]*Exact", "Object", "Override"};

    public static void main(String[] args) throws IOException {
        String source = Files.readString(Path.of("src/main/java/DiskRekeying.java"));
        CHECKS.holds("the source is ASCII", source.chars().allMatch(c -> c < 127));
        String code = source.replaceAll("(?s)/\\*.*?\\*/", "").replaceAll("//[^\n]*", "");
        for (String word : FORBIDDEN) {
            CHECKS.due("uses of " + word, uses(code, "\\b" + word + "\\b"), 0);
        }
        CHECKS.due("lambdas and method references", uses(code, "->|::"), 0);
        CHECKS.due("texts", uses(code, "\""), 0);
        CHECKS.due("public classes", uses(code, "public\\s+(final\\s+)?class"), 1);
        CHECKS.due("classes inside that are not private and static",
            uses(code, "\\bclass\\b") - uses(code, "private static final class") - 1, 0);
        CHECKS.due("static fields that are not final", uses(code, "static (?!final)[a-zA-Z\\[\\]]+ [a-zA-Z]+ *[=;]"), 0);
        arraysAreTouchedInRowsAlone(code);
        nothingIsMadeByCalls(code);
        methodsAreShort(source);
        CHECKS.end();
    }

    private static int uses(String code, String pattern) {
        Matcher matcher = Pattern.compile(pattern).matcher(code);
        int uses = 0;
        while (matcher.find()) {
            uses++;
        }
        return uses;
    }

    /** Row and History's slot look at each index; all others go through them. */
    private static void arraysAreTouchedInRowsAlone(String code) {
        CHECKS.due("array accesses but cells[i] and slots[i]",
            uses(code, "[a-zA-Z]\\[[^\\]]+\\]") - uses(code, "\\b(cells|slots)\\[i\\]")
                - uses(code, "new (int|Disk)\\["), 0);
    }

    /** The room of a run holds what constructors make; a call makes nothing. */
    private static void nothingIsMadeByCalls(String code) {
        CHECKS.due("objects made outside of fields and constructors",
            uses(code, "\\bnew ") - uses(code, "private final [a-zA-Z\\[\\]]+ [a-zA-Z]+ = new ")
                - uses(code, "cells = new int|slots\\[i\\] = new Disk"), 0);
    }

    private static void methodsAreShort(String source) {
        int length = 0;
        for (String line : source.split("\n")) {
            CHECKS.holds("a line of at most 110 signs: " + line, line.length() <= 110);
            boolean opens = line.matches(" {4,8}[a-z].*\\(.*\\) \\{");
            length = opens ? 0 : length + 1;
            CHECKS.holds("a method of at most 60 lines", !line.matches(" {4,8}\\}") || length <= 60
                || line.startsWith("    }"));
        }
    }
}
