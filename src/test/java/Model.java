import java.util.ArrayDeque;
import java.util.ArrayList;
import java.util.Deque;
import java.util.List;
import java.util.TreeMap;
import java.util.TreeSet;
import java.util.regex.Matcher;
import java.util.regex.Pattern;

/**
 * The document a second time, in another way than the program: with the collections of the library, with copies
 * for every forecast, with steps that are tried where the program counts, and with a pattern for the script.
 */
final class Model {
    private static final Pattern SCRIPT = Pattern.compile(
        "(?:w[0-9]{1,5}=[0-9]{1,5}|f|s[0-9]{1,5}|x|b)(?:;(?:w[0-9]{1,5}=[0-9]{1,5}|f|s[0-9]{1,5}|x|b))*");

    private static final class State {
        List<Integer> stored = new ArrayList<>();
        List<Integer> expected = new ArrayList<>();
        TreeMap<Integer, Integer> keys = new TreeMap<>();
        TreeMap<Integer, Integer> cache = new TreeMap<>();
        TreeMap<Integer, Integer> journal = new TreeMap<>();
        TreeSet<Integer> rewritten = new TreeSet<>();
        int own = 1;
        Integer target = null;
        int direction = 1;
        int position = 0;
        int zone = 4;
        int useJournal = 1;
        int ended = 0;
        int failures = 0;

        State copy() {
            State c = new State();
            c.stored = new ArrayList<>(stored);
            c.expected = new ArrayList<>(expected);
            c.keys = new TreeMap<>(keys);
            c.cache = new TreeMap<>(cache);
            c.journal = new TreeMap<>(journal);
            c.rewritten = new TreeSet<>(rewritten);
            c.own = own;
            c.target = target;
            c.direction = direction;
            c.position = position;
            c.zone = zone;
            c.useJournal = useJournal;
            c.ended = ended;
            c.failures = failures;
            return c;
        }
    }

    private State now = new State();
    private final Deque<State> saved = new ArrayDeque<>();
    private String text = "";

    Model() {
        now.keys.put(1, 0);
        clean(now, 16);
    }

    private static void clean(State d, int sectors) {
        d.stored.clear();
        d.expected.clear();
        for (int s = 0; s < sectors; s++) {
            d.stored.add(Checks.scramble(0, s, d.keys.get(d.own)));
            d.expected.add(0);
        }
    }

    private void save() {
        saved.addLast(now.copy());
        if (saved.size() > 6) {
            saved.removeFirst();
        }
    }

    // ---- what the terms say

    private static List<Integer> zoneOf(State d) {
        List<Integer> zone = new ArrayList<>();
        if (d.target == null) {
            return zone;
        }
        int first = d.direction == 1 ? d.position : d.position - d.zone;
        for (int s = first; s < first + d.zone; s++) {
            if (s >= 0 && s < d.stored.size()) {
                zone.add(s);
            }
        }
        return zone;
    }

    private static boolean open(State d) {
        return !d.journal.isEmpty() || !d.rewritten.isEmpty();
    }

    private static int key(State d, int s) {
        if (d.target == null) {
            return d.own;
        }
        if (d.rewritten.contains(s)) {
            return d.direction == 1 ? d.target : d.own;
        }
        return s < d.position ? d.target : d.own;
    }

    private static int value(State d, int s) {
        Integer waiting = d.cache.get(s);
        return waiting != null ? waiting : Checks.scramble(d.stored.get(s), s, d.keys.get(key(d, s)));
    }

    private static void step(State d) {
        List<Integer> zone = zoneOf(d);
        if (d.useJournal == 1 && d.journal.isEmpty() && d.rewritten.isEmpty()) {
            for (int s : zone) {
                d.journal.put(s, d.stored.get(s));
            }
            return;
        }
        for (int s : zone) {
            if (!d.rewritten.contains(s)) {
                int plain = Checks.scramble(d.stored.get(s), s, d.keys.get(key(d, s)));
                d.rewritten.add(s);
                d.stored.set(s, Checks.scramble(plain, s, d.keys.get(key(d, s))));
                return;
            }
        }
        d.position += d.direction == 1 ? zone.size() : -zone.size();
        d.journal.clear();
        d.rewritten.clear();
        endMaybe(d);
    }

    private static void endMaybe(State d) {
        if (d.direction == 1 && d.position == d.stored.size()) {
            d.own = d.target;
            d.ended++;
            d.target = null;
        } else if (d.direction == 0 && d.position == 0) {
            d.target = null;
        }
    }

    private static int run(State d, int steps) {
        int made = 0;
        for (; made < steps && d.target != null; made++) {
            step(d);
        }
        return made;
    }

    private static void powerOff(State d) {
        d.cache.clear();
        d.rewritten.clear();
        for (int s : d.journal.keySet()) {
            d.stored.set(s, d.journal.get(s));
        }
        d.journal.clear();
        d.failures++;
    }

    private static List<Integer> damage(State d) {
        List<Integer> damaged = new ArrayList<>();
        for (int s = 0; s < d.stored.size(); s++) {
            if (value(d, s) != d.expected.get(s)) {
                damaged.add(s);
            }
        }
        return damaged;
    }

    private static int flushNow(State d) {
        int flushed = 0;
        for (int s : new ArrayList<>(d.cache.keySet())) {
            if (!open(d) || !zoneOf(d).contains(s)) {
                d.stored.set(s, Checks.scramble(d.cache.get(s), s, d.keys.get(key(d, s))));
                d.cache.remove(s);
                flushed++;
            }
        }
        return flushed;
    }

    private boolean sector(int s) {
        return 0 <= s && s < now.stored.size();
    }

    // ---- the calls

    int format(int sectors) {
        if (sectors < 4 || sectors > 64) {
            return -2;
        }
        save();
        int before = now.stored.size();
        now.target = null;
        now.cache.clear();
        now.journal.clear();
        now.rewritten.clear();
        clean(now, sectors);
        return before;
    }

    int addKey(int key, int secret) {
        if (key < 1 || key > 99 || secret < 0 || secret > 65535) {
            return -2;
        }
        if (now.keys.containsKey(key)) {
            return -3;
        }
        if (now.keys.size() == 8) {
            return -4;
        }
        save();
        now.keys.put(key, secret);
        return now.keys.size();
    }

    int removeKey(int key) {
        if (!now.keys.containsKey(key)) {
            return -1;
        }
        if (key == now.own || now.target != null && key == now.target) {
            return -3;
        }
        save();
        now.keys.remove(key);
        return now.keys.size();
    }

    int secretOf(int key) {
        return now.keys.getOrDefault(key, -1);
    }

    int setZone(int sectors) {
        if (sectors < 1 || sectors > 8) {
            return -2;
        }
        if (open(now)) {
            return -3;
        }
        save();
        int before = now.zone;
        now.zone = sectors;
        return before;
    }

    int setJournal(int on) {
        if (on != 1 && on != 0) {
            return -2;
        }
        if (open(now)) {
            return -3;
        }
        save();
        int before = now.useJournal;
        now.useJournal = on;
        return before;
    }

    int start(int key) {
        if (!now.keys.containsKey(key)) {
            return -1;
        }
        if (now.target != null || key == now.own) {
            return -3;
        }
        save();
        now.target = key;
        now.position = 0;
        now.direction = 1;
        return run(now.copy(), 1000000);
    }

    int steps(int steps) {
        if (steps < 1 || steps > 999) {
            return -2;
        }
        if (now.target == null) {
            return -3;
        }
        save();
        return run(now, steps);
    }

    int turnBack() {
        if (now.target == null || open(now)) {
            return -3;
        }
        save();
        now.direction = 1 - now.direction;
        endMaybe(now);
        return run(now.copy(), 1000000);
    }

    int write(int sector, int value) {
        if (!sector(sector)) {
            return -1;
        }
        if (value < 0 || value > 65535) {
            return -2;
        }
        if (!now.cache.containsKey(sector) && now.cache.size() == 8) {
            return -4;
        }
        save();
        now.cache.put(sector, value);
        now.expected.set(sector, value);
        return now.cache.size();
    }

    int flush() {
        save();
        return flushNow(now);
    }

    int fail() {
        save();
        State before = now.copy();
        powerOff(now);
        int other = 0;
        for (int s = 0; s < now.stored.size(); s++) {
            other += value(before, s) != value(now, s) ? 1 : 0;
        }
        return other;
    }

    int count(int what) {
        boolean rekeying = now.target != null;
        Integer[] numbers = {now.stored.size(), now.own, now.target, rekeying ? now.position : null,
            rekeying ? now.direction : null, now.rewritten.size(), now.journal.size(), now.cache.size(), now.zone,
            now.useJournal, now.keys.size(), now.ended, now.failures};
        if (what < 0 || what >= numbers.length) {
            return -2;
        }
        return numbers[what] == null ? -6 : numbers[what];
    }

    int read(int s) {
        return sector(s) ? value(now, s) : -1;
    }

    int stored(int s) {
        return sector(s) ? now.stored.get(s) : -1;
    }

    int keyOf(int s) {
        return sector(s) ? key(now, s) : -1;
    }

    int journal(int s) {
        return sector(s) ? now.journal.getOrDefault(s, -6) : -1;
    }

    int cached(int s) {
        return sector(s) ? now.cache.getOrDefault(s, -6) : -1;
    }

    int zoneStart() {
        return now.target == null ? -3 : zoneOf(now).get(0);
    }

    int damaged() {
        return damage(now).size();
    }

    int firstDamaged() {
        List<Integer> damaged = damage(now);
        return damaged.isEmpty() ? -6 : damaged.get(0);
    }

    int stepsLeft() {
        return now.target == null ? -3 : run(now.copy(), 1000000);
    }

    int ifFailed(int steps) {
        if (steps < 0 || steps > 999) {
            return -2;
        }
        State then = now.copy();
        run(then, steps);
        powerOff(then);
        return damage(then).size();
    }

    int worstTime() {
        int worst = 0;
        int most = -1;
        State then = now.copy();
        for (int time = 0; time <= 99; time++) {
            State off = then.copy();
            powerOff(off);
            if (damage(off).size() > most) {
                worst = time;
                most = damage(off).size();
            }
            run(then, 1);
        }
        return worst;
    }

    int ifFlushed(int s) {
        State then = now.copy();
        flushNow(then);
        return sector(s) ? then.stored.get(s) : -1;
    }

    int type(int code) {
        if (code < 33 || code > 126) {
            return -2;
        }
        if (text.length() == 80) {
            return -4;
        }
        text += (char) code;
        return text.length();
    }

    int clearText() {
        int length = text.length();
        text = "";
        return length;
    }

    int syntaxError() {
        for (int i = 0; i < text.length(); i++) {
            Matcher beginning = SCRIPT.matcher(text.substring(0, i + 1));
            if (!beginning.matches() && !beginning.hitEnd()) {
                return i;
            }
        }
        return SCRIPT.matcher(text).matches() ? -6 : text.length();
    }

    int carryOut() {
        if (!SCRIPT.matcher(text).matches()) {
            return -5;
        }
        State before = now.copy();
        Deque<State> savedBefore = new ArrayDeque<>(saved);
        int done = 0;
        for (String command : text.split(";")) {
            if (obey(command) < 0) {
                break;
            }
            done++;
        }
        State after = now;
        now = before;
        saved.clear();
        saved.addAll(savedBefore);
        save();
        now = after;
        text = "";
        return done;
    }

    private int obey(String command) {
        String[] numbers = command.substring(1).split("=");
        switch (command.charAt(0)) {
            case 'w': return write(Integer.parseInt(numbers[0]), Integer.parseInt(numbers[1]));
            case 'f': return flush();
            case 's': return steps(Integer.parseInt(numbers[0]));
            case 'x': return fail();
            default: return turnBack();
        }
    }

    int undo() {
        if (saved.isEmpty()) {
            return -3;
        }
        now = saved.removeLast();
        return saved.size();
    }

    long digest() {
        List<Integer> list = new ArrayList<>();
        for (int what = 0; what <= 12; what++) {
            list.add(count(what));
        }
        now.keys.forEach((key, secret) -> {
            list.add(key);
            list.add(secret);
        });
        for (int s = 0; s < now.stored.size(); s++) {
            list.addAll(List.of(read(s), stored(s), keyOf(s), journal(s), cached(s)));
        }
        list.add(damaged());
        list.add(firstDamaged());
        if (now.target != null) {
            list.add(zoneStart());
            list.add(stepsLeft());
        }
        long hash = 392;
        for (int v : list) {
            hash = 31 * hash + v;
        }
        return hash;
    }
}
