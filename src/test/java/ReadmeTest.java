import java.io.IOException;
import java.lang.reflect.Method;
import java.lang.reflect.Modifier;
import java.net.URL;
import java.net.URLClassLoader;
import java.nio.file.Files;
import java.nio.file.Path;
import java.util.ArrayList;
import java.util.List;
import java.util.Map;
import java.util.TreeMap;
import java.util.TreeSet;
import java.util.regex.Matcher;
import java.util.regex.Pattern;
import java.util.stream.Stream;

/** README.md: its example compiles and answers as it says; its tables name each call and each test. */
public final class ReadmeTest {
    private static final Checks CHECKS = new Checks();
    private static final Path TESTS = Path.of("src/test/java");
    private static final Pattern ANSWERED = Pattern.compile("(disk\\.[a-zA-Z]+\\(.*\\));\\s+// (-?[0-9]+|[A-Z_]+)\\b.*");
    private static final Pattern ROW = Pattern.compile("\\| `([a-zA-Z]+)\\(.*?\\)` \\| .* \\| ?([A-Z_, ]*)\\| (yes )?\\|");
    private static final Pattern SIGNATURE = Pattern.compile("`(?:int|long) ([a-zA-Z]+)\\(.*?\\)`: .*");
    private static final Pattern ERROR_CODE = Pattern.compile("NO_SUCH|BAD_VALUE|NOT_POSSIBLE|LIMIT|BAD_TEXT");

    public static void main(String[] args) throws IOException, ReflectiveOperationException, InterruptedException {
        List<String> readme = Files.readAllLines(Path.of("README.md"));
        example(readme);
        Map<String, String> calls = callsOfTable(readme);
        CHECKS.due("rows of the table of the calls", calls.size(), publicCalls().size());
        CHECKS.holds("the table has the calls of the class", calls.keySet().equals(publicCalls()));
        CHECKS.holds("the table says what the document says:\n" + calls + "\n" + callsOfDocument(),
            calls.equals(callsOfDocument()));
        tests(String.join("\n", readme));
        CHECKS.end();
    }

    /** The example's code as a class of its own, which answers what the calls with an answer in a comment answer. */
    private static void example(List<String> readme)
            throws IOException, ReflectiveOperationException, InterruptedException {
        List<String> calls = new ArrayList<>();
        List<Long> due = new ArrayList<>();
        StringBuilder code = new StringBuilder("import java.util.*; public final class Example {"
            + " public static List<Long> answers() { List<Long> answers = new ArrayList<>();\n");
        for (String line : codeOf(readme)) {
            Matcher answered = ANSWERED.matcher(line);
            if (answered.matches()) {
                calls.add(answered.group(1));
                due.add(numberOf(answered.group(2)));
                code.append("answers.add((long) ").append(answered.group(1)).append(");\n");
            } else {
                code.append(line).append('\n');
            }
        }
        List<?> answers = answersOf(code.append("return answers; } }\n").toString());
        CHECKS.holds("the example has answers", !due.isEmpty());
        CHECKS.due("answers of the example", answers.size(), due.size());
        for (int i = 0; i < answers.size() && i < due.size(); i++) {
            CHECKS.due("README.md: " + calls.get(i), (Long) answers.get(i), due.get(i));
        }
    }

    private static List<String> codeOf(List<String> readme) {
        List<String> code = new ArrayList<>();
        boolean inCode = false;
        for (String line : readme) {
            if (line.startsWith("```")) {
                inCode = line.equals("```java");
            } else if (inCode) {
                code.add(line);
            }
        }
        return code;
    }

    private static long numberOf(String word) throws ReflectiveOperationException {
        return word.matches("[A-Z_]+") ? DiskRekeying.class.getField(word).getInt(null) : Long.parseLong(word);
    }

    private static List<?> answersOf(String code)
            throws IOException, ReflectiveOperationException, InterruptedException {
        Path folder = Files.createTempDirectory("readme");
        Path source = folder.resolve("Example.java");
        Files.writeString(source, code);
        int status = statusOf("javac", "-d", folder.toString(), "-cp", System.getProperty("java.class.path"),
            source.toString());
        CHECKS.due("status of compiling the example", status, 0);
        try (URLClassLoader loader = new URLClassLoader(new URL[] {folder.toUri().toURL()})) {
            return status == 0 ? (List<?>) loader.loadClass("Example").getMethod("answers").invoke(null) : List.of();
        } finally {
            delete(folder);
        }
    }

    private static int statusOf(String... command) throws IOException, InterruptedException {
        return new ProcessBuilder(command).inheritIO().start().waitFor();
    }

    private static void delete(Path folder) throws IOException {
        try (Stream<Path> files = Files.list(folder)) {
            for (Path file : files.toList()) {
                Files.delete(file);
            }
        }
        Files.delete(folder);
    }

    private static TreeSet<String> publicCalls() {
        TreeSet<String> names = new TreeSet<>();
        for (Method method : DiskRekeying.class.getDeclaredMethods()) {
            if (Modifier.isPublic(method.getModifiers())) {
                names.add(method.getName());
            }
        }
        return names;
    }

    /** For each call its error codes in their order, and whether it can be undone. */
    private static Map<String, String> callsOfTable(List<String> readme) {
        Map<String, String> calls = new TreeMap<>();
        for (String line : readme) {
            Matcher row = ROW.matcher(line);
            if (row.matches()) {
                calls.put(row.group(1), codesIn(row.group(2)) + (row.group(3) != null ? " undo" : ""));
            }
        }
        return calls;
    }

    private static Map<String, String> callsOfDocument() throws IOException {
        Map<String, String> calls = new TreeMap<>();
        String call = "";
        for (String line : Files.readAllLines(Path.of("../shared/DOC.md"))) {
            Matcher signature = SIGNATURE.matcher(line);
            if (signature.matches()) {
                call = signature.group(1);
                calls.put(call, line.endsWith("Undoable.") ? "[] undo" : "[]");
            } else if (line.startsWith("Returns ") && calls.containsKey(call)) {
                calls.put(call, calls.get(call).replace("[]", codesIn(line).toString()));
            }
        }
        return calls;
    }

    private static List<String> codesIn(String text) {
        return ERROR_CODE.matcher(text).results().map(code -> code.group()).toList();
    }

    private static void tests(String readme) throws IOException {
        CHECKS.holds("it says how the tests are run", readme.contains("bash .ci/run"));
        try (Stream<Path> files = Files.list(TESTS)) {
            for (Path file : files.toList()) {
                String name = file.getFileName().toString().replace(".java", "");
                CHECKS.holds("the table of the tests names " + name,
                    !name.endsWith("Test") || readme.contains("| `" + name + "` |"));
            }
        }
    }
}
