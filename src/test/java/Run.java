import java.lang.reflect.Method;
import java.util.ArrayList;
import java.util.List;
import java.util.regex.Matcher;
import java.util.regex.Pattern;

/** A run of calls on a new object, read from a line. README.md tells how such a line is written. */
final class Run {
    private static final int MOST_CALLS = 512;
    private static final Pattern REPEATED = Pattern.compile("([0-9]+)\\*(.*)");
    private static final Pattern RANGE = Pattern.compile("(-?[0-9]+)\\.\\.(-?[0-9]+)");
    private static final Pattern CALL = Pattern.compile("([a-zA-Z]+)\\(([-0-9,]*)\\)(?:=(.+))?");
    private static final Pattern SCRAMBLED = Pattern.compile("scrambled\\(([0-9]+),([0-9]+),([0-9]+)\\)");

    private final Checks checks;
    private final String place;
    private final DiskRekeying x = new DiskRekeying();
    private int calls = 0;
    private int looked = 0;
    private long kept = 0;

    private Run(Checks checks, String place) {
        this.checks = checks;
        this.place = place;
    }

    static void make(Checks checks, String place, String line) {
        Run run = new Run(checks, place);
        for (String word : line.trim().split("\\s+")) {
            for (String call : callsOf(word)) {
                run.obey(call);
            }
        }
        checks.holds(place + " looks at an answer", run.looked > 0);
        checks.holds(place + " makes at most " + MOST_CALLS + " calls", run.calls <= MOST_CALLS);
    }

    /** The calls for which a word stands: it may be repeated, or have ranges that go on side by side. */
    private static List<String> callsOf(String word) {
        List<String> calls = new ArrayList<>();
        Matcher repeated = REPEATED.matcher(word);
        if (repeated.matches()) {
            for (int i = 0; i < Integer.parseInt(repeated.group(1)); i++) {
                calls.add(repeated.group(2));
            }
            return calls;
        }
        Matcher range = RANGE.matcher(word);
        boolean ranges = !word.startsWith("'") && range.find();
        int length = ranges ? Integer.parseInt(range.group(2)) - Integer.parseInt(range.group(1)) + 1 : 1;
        for (int i = 0; i < length; i++) {
            int step = i;
            calls.add(ranges ? RANGE.matcher(word).replaceAll(r -> numberOf(r.group(1), step)) : word);
        }
        return calls;
    }

    private static String numberOf(String first, int step) {
        return String.valueOf(Integer.parseInt(first) + step);
    }

    private void obey(String call) {
        if (call.startsWith("'")) {
            for (char c : call.substring(1, call.length() - 1).toCharArray()) {
                answer("type", String.valueOf((int) c));
            }
            return;
        }
        if (call.equals("keep")) {
            kept = answer("digest", "");
            return;
        }
        Matcher parts = CALL.matcher(call);
        if (!parts.matches()) {
            checks.holds(place + " can be read: " + call, false);
            return;
        }
        String due = parts.group(3);
        long got = answer(parts.group(1), parts.group(2));
        if (due != null) {
            looked++;
            checks.due(place + ": " + call, got, numberDue(due));
        }
    }

    private long answer(String name, String arguments) {
        calls++;
        String[] words = arguments.isEmpty() ? new String[0] : arguments.split(",");
        Object[] numbers = new Object[words.length];
        Class<?>[] types = new Class<?>[words.length];
        for (int i = 0; i < words.length; i++) {
            numbers[i] = Integer.parseInt(words[i]);
            types[i] = int.class;
        }
        try {
            Method method = DiskRekeying.class.getMethod(name, types);
            return ((Number) method.invoke(x, numbers)).longValue();
        } catch (ReflectiveOperationException e) {
            throw new IllegalStateException(place + ": " + name + "(" + arguments + ") cannot be called", e);
        }
    }

    private long numberDue(String due) {
        Matcher scrambled = SCRAMBLED.matcher(due);
        if (scrambled.matches()) {
            return Checks.scramble(Integer.parseInt(scrambled.group(1)), Integer.parseInt(scrambled.group(2)),
                Integer.parseInt(scrambled.group(3)));
        }
        switch (due) {
            case "NO_SUCH": return -1;
            case "BAD_VALUE": return -2;
            case "NOT_POSSIBLE": return -3;
            case "LIMIT": return -4;
            case "BAD_TEXT": return -5;
            case "NONE": return -6;
            case "kept": return kept;
            case "list": return hashOfList();
            default: return Long.parseLong(due);
        }
    }

    /** The digest as the document tells it, from the other calls' answers. */
    private long hashOfList() {
        List<Long> list = new ArrayList<>();
        for (int what = 0; what <= 12; what++) {
            list.add(answer("count", "" + what));
        }
        for (int key = 1; key <= 99; key++) {
            long secret = answer("secretOf", "" + key);
            if (secret != -1) {
                list.add((long) key);
                list.add(secret);
            }
        }
        long sectors = list.get(0);
        for (int s = 0; s < sectors; s++) {
            for (String name : List.of("read", "stored", "keyOf", "journal", "cached")) {
                list.add(answer(name, "" + s));
            }
        }
        list.add(answer("damaged", ""));
        list.add(answer("firstDamaged", ""));
        if (list.get(2) != -6) {
            list.add(answer("zoneStart", ""));
            list.add(answer("stepsLeft", ""));
        }
        long hash = 392;
        for (long v : list) {
            hash = 31 * hash + v;
        }
        return hash;
    }
}
