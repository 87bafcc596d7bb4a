/**
 * A disk whose sectors get another key from the front to the back while it is read and written.
 * What each call promises stands in ../shared/DOC.md.
 */
public final class DiskRekeying {
    public static final int NO_SUCH = -1;
    public static final int BAD_VALUE = -2;
    public static final int NOT_POSSIBLE = -3;
    public static final int LIMIT = -4;
    public static final int BAD_TEXT = -5;
    public static final int NONE = -6;

    private static final int MIN_SECTORS = 4;
    private static final int MAX_SECTORS = 64;
    private static final int NEW_SECTORS = 16;
    private static final int MAX_VALUE = 65535;
    private static final int MAX_KEY = 99;
    private static final int MAX_KEYS = 8;
    private static final int NO_KEY = 0;
    private static final int MAX_ZONE = 8;
    private static final int MAX_CACHED = 8;
    private static final int MAX_STEPS = 999;
    private static final int LAST_WORST_TIME = 99;
    private static final int MAX_SAVED = 6;
    private static final int MAX_TEXT = 80;
    private static final int MAX_DIGITS = 5;
    private static final int MAX_COMMANDS = (MAX_TEXT + 1) / 2;
    private static final int NUMBERS_OF_DISK = 13;
    private static final long DIGEST_START = 392;

    /** What a row has where it has no number; all numbers that rows hold are 0 or more. */
    private static final int NOTHING = -1;

    private final Disk disk = new Disk();
    /** Forecasts try things on it, so that the disk itself stays as it is. */
    private final Disk trial = new Disk();
    private final History history = new History();
    private final Script script = new Script();

    /** Creates a formatted disk of 16 sectors with the key 1. */
    public DiskRekeying() {
    }

    // ---- disk and keys

    public int format(int sectors) {
        history.draft(disk);
        return history.keep(disk.reformat(sectors));
    }

    public int addKey(int key, int secret) {
        history.draft(disk);
        return history.keep(disk.insertKey(key, secret));
    }

    public int removeKey(int key) {
        history.draft(disk);
        return history.keep(disk.dropKey(key));
    }

    public int secretOf(int key) {
        return disk.hasKey(key) ? disk.secretBehind(key) : NO_SUCH;
    }

    // ---- rekeying

    public int setZone(int sectors) {
        history.draft(disk);
        return history.keep(disk.resizeZone(sectors));
    }

    public int setJournal(int on) {
        history.draft(disk);
        return history.keep(disk.switchJournal(on));
    }

    public int start(int key) {
        history.draft(disk);
        return history.keep(disk.begin(key));
    }

    public int steps(int steps) {
        history.draft(disk);
        return history.keep(disk.advance(steps));
    }

    public int turnBack() {
        history.draft(disk);
        return history.keep(disk.turn());
    }

    // ---- host

    public int write(int sector, int value) {
        history.draft(disk);
        return history.keep(disk.put(sector, value));
    }

    public int flush() {
        history.draft(disk);
        return history.keep(disk.flushCache());
    }

    public int fail() {
        history.draft(disk);
        return history.keep(disk.losePower());
    }

    // ---- asking

    public int count(int what) {
        if (what < 0 || what >= NUMBERS_OF_DISK) {
            return BAD_VALUE;
        }
        return what >= 2 && what <= 4 ? disk.numberOfRekeying(what) : disk.number(what);
    }

    public int read(int sector) {
        return disk.hasSector(sector) ? disk.valueIn(sector) : NO_SUCH;
    }

    public int stored(int sector) {
        return disk.hasSector(sector) ? disk.scrambledIn(sector) : NO_SUCH;
    }

    public int keyOf(int sector) {
        return disk.hasSector(sector) ? disk.keyAt(sector) : NO_SUCH;
    }

    public int journal(int sector) {
        return disk.hasSector(sector) ? orNone(disk.inJournal(sector)) : NO_SUCH;
    }

    public int cached(int sector) {
        return disk.hasSector(sector) ? orNone(disk.inCache(sector)) : NO_SUCH;
    }

    public int zoneStart() {
        return disk.isRekeying() ? disk.zoneFirst() : NOT_POSSIBLE;
    }

    public int damaged() {
        return disk.damageCount();
    }

    public int firstDamaged() {
        return orNone(disk.firstDamage());
    }

    // ---- forecasts; they change nothing

    public int stepsLeft() {
        return disk.isRekeying() ? disk.stepsAhead() : NOT_POSSIBLE;
    }

    public int ifFailed(int steps) {
        if (steps < 0 || steps > MAX_STEPS) {
            return BAD_VALUE;
        }
        trial.takeOver(disk);
        for (int made = 0; made < steps && trial.isRekeying(); made++) {
            trial.makeStep();
        }
        return trial.damageAfterFailure();
    }

    public int worstTime() {
        trial.takeOver(disk);
        int worst = 0;
        int most = trial.damageAfterFailure();
        for (int time = 1; time <= LAST_WORST_TIME && trial.isRekeying(); time++) {
            trial.makeStep();
            int damage = trial.damageAfterFailure();
            if (damage > most) {
                most = damage;
                worst = time;
            }
        }
        return worst;
    }

    public int ifFlushed(int sector) {
        return disk.hasSector(sector) ? disk.scrambledAfterFlush(sector) : NO_SUCH;
    }

    // ---- text

    public int type(int code) {
        return script.append(code);
    }

    public int clearText() {
        return script.empty();
    }

    public int syntaxError() {
        return script.firstError();
    }

    public int carryOut() {
        if (script.firstError() != NONE) {
            return BAD_TEXT;
        }
        history.draft(disk);
        int commands = script.split();
        int done = 0;
        while (done < commands
                && disk.obey(script.letter(done), script.sector(done), script.number(done)) >= 0) {
            done++;
        }
        script.empty();
        return history.keep(done);
    }

    // ---- undo

    public int undo() {
        return history.bringBack(disk);
    }

    public long digest() {
        long hash = DIGEST_START;
        for (int what = 0; what < NUMBERS_OF_DISK; what++) {
            hash = 31 * hash + count(what);
        }
        hash = withSectors(withKeys(hash));
        hash = 31 * hash + damaged();
        hash = 31 * hash + firstDamaged();
        if (disk.isRekeying()) {
            hash = 31 * hash + zoneStart();
            hash = 31 * hash + stepsLeft();
        }
        return hash;
    }

    private long withKeys(long start) {
        long hash = start;
        for (int key = 1; key <= MAX_KEY; key++) {
            if (disk.hasKey(key)) {
                hash = 31 * hash + key;
                hash = 31 * hash + secretOf(key);
            }
        }
        return hash;
    }

    private long withSectors(long start) {
        long hash = start;
        for (int s = 0; s < MAX_SECTORS && disk.hasSector(s); s++) {
            hash = 31 * hash + read(s);
            hash = 31 * hash + stored(s);
            hash = 31 * hash + keyOf(s);
            hash = 31 * hash + journal(s);
            hash = 31 * hash + cached(s);
        }
        return hash;
    }

    private static int orNone(int number) {
        return number == NOTHING ? NONE : number;
    }

    /** A row of numbers that looks at each index before it uses it. */
    private static final class Row {
        private final int[] cells;

        Row(int length) {
            cells = new int[Math.max(length, 0)];
            clear();
        }

        int get(int i) {
            return i >= 0 && i < cells.length ? cells[i] : NOTHING;
        }

        void set(int i, int number) {
            if (i >= 0 && i < cells.length) {
                cells[i] = number;
            }
        }

        void clear() {
            for (int i = 0; i < cells.length; i++) {
                cells[i] = NOTHING;
            }
        }

        /** How many cells have a number. */
        int filled() {
            int filled = 0;
            for (int i = 0; i < cells.length; i++) {
                if (cells[i] != NOTHING) {
                    filled++;
                }
            }
            return filled;
        }

        void takeOver(Row other) {
            for (int i = 0; i < cells.length; i++) {
                cells[i] = other.get(i);
            }
        }
    }

    /** All that undo brings back: the disk, its keys, rekeying, journal, cache and expected values. */
    private static final class Disk {
        private final Row scrambled = new Row(MAX_SECTORS);
        private final Row expected = new Row(MAX_SECTORS);
        private final Row cache = new Row(MAX_SECTORS);
        private final Row logged = new Row(MAX_SECTORS);
        private final Row secrets = new Row(MAX_KEY + 1);
        private int sectors = NEW_SECTORS;
        private int ownKey = 1;
        private int target = NO_KEY;
        private boolean forward = true;
        private int position = 0;
        private int rewritten = 0;
        private int zoneSize = 4;
        private boolean journalUsed = true;
        private int completed = 0;
        private int failures = 0;

        Disk() {
            secrets.set(ownKey, 0);
            fillWithZeros();
        }

        void takeOver(Disk other) {
            scrambled.takeOver(other.scrambled);
            expected.takeOver(other.expected);
            cache.takeOver(other.cache);
            logged.takeOver(other.logged);
            secrets.takeOver(other.secrets);
            sectors = other.sectors;
            ownKey = other.ownKey;
            target = other.target;
            forward = other.forward;
            position = other.position;
            rewritten = other.rewritten;
            zoneSize = other.zoneSize;
            journalUsed = other.journalUsed;
            completed = other.completed;
            failures = other.failures;
        }

        // ---- what changes the disk; an answer below 0 is an error code, and then nothing has changed

        int reformat(int newSectors) {
            if (newSectors < MIN_SECTORS || newSectors > MAX_SECTORS) {
                return BAD_VALUE;
            }
            int previous = sectors;
            sectors = newSectors;
            target = NO_KEY;
            closeZone();
            fillWithZeros();
            return previous;
        }

        int insertKey(int key, int secret) {
            if (key < 1 || key > MAX_KEY || secret < 0 || secret > MAX_VALUE) {
                return BAD_VALUE;
            }
            if (hasKey(key)) {
                return NOT_POSSIBLE;
            }
            if (secrets.filled() >= MAX_KEYS) {
                return LIMIT;
            }
            secrets.set(key, secret);
            return secrets.filled();
        }

        int dropKey(int key) {
            if (!hasKey(key)) {
                return NO_SUCH;
            }
            if (key == ownKey || key == target) {
                return NOT_POSSIBLE;
            }
            secrets.set(key, NOTHING);
            return secrets.filled();
        }

        int resizeZone(int size) {
            if (size < 1 || size > MAX_ZONE) {
                return BAD_VALUE;
            }
            if (isZoneOpen()) {
                return NOT_POSSIBLE;
            }
            int previous = zoneSize;
            zoneSize = size;
            return previous;
        }

        int switchJournal(int on) {
            if (on != 0 && on != 1) {
                return BAD_VALUE;
            }
            if (isZoneOpen()) {
                return NOT_POSSIBLE;
            }
            int previous = journalUsed ? 1 : 0;
            journalUsed = on == 1;
            return previous;
        }

        int begin(int key) {
            if (!hasKey(key)) {
                return NO_SUCH;
            }
            if (isRekeying() || key == ownKey) {
                return NOT_POSSIBLE;
            }
            target = key;
            forward = true;
            position = 0;
            return stepsAhead();
        }

        int advance(int steps) {
            if (steps < 1 || steps > MAX_STEPS) {
                return BAD_VALUE;
            }
            if (!isRekeying()) {
                return NOT_POSSIBLE;
            }
            int made = 0;
            while (made < steps && isRekeying()) {
                makeStep();
                made++;
            }
            return made;
        }

        int turn() {
            if (!isRekeying() || isZoneOpen()) {
                return NOT_POSSIBLE;
            }
            forward = !forward;
            endIfThrough();
            return stepsAhead();
        }

        int put(int sector, int value) {
            if (!hasSector(sector)) {
                return NO_SUCH;
            }
            if (value < 0 || value > MAX_VALUE) {
                return BAD_VALUE;
            }
            if (cache.get(sector) == NOTHING && cache.filled() >= MAX_CACHED) {
                return LIMIT;
            }
            cache.set(sector, value);
            expected.set(sector, value);
            return cache.filled();
        }

        int flushCache() {
            int flushed = 0;
            for (int s = 0; s < sectors; s++) {
                if (isFlushable(s)) {
                    scrambled.set(s, scrambledAfterFlush(s));
                    cache.set(s, NOTHING);
                    flushed++;
                }
            }
            return flushed;
        }

        int losePower() {
            int changed = 0;
            for (int s = 0; s < sectors; s++) {
                if (valueIn(s) != valueAfterFailure(s)) {
                    changed++;
                }
            }
            for (int s = 0; s < sectors; s++) {
                scrambled.set(s, scrambledAfterFailure(s));
            }
            cache.clear();
            closeZone();
            failures++;
            return changed;
        }

        /** Carries out one command of a script. */
        int obey(int letter, int sector, int number) {
            switch (letter) {
                case 'w': return put(sector, number);
                case 'f': return flushCache();
                case 's': return advance(number);
                case 'x': return losePower();
                case 'b': return turn();
                default: return BAD_TEXT;
            }
        }

        // ---- keys and values

        boolean hasSector(int sector) {
            return sector >= 0 && sector < sectors;
        }

        boolean hasKey(int key) {
            return secrets.get(key) != NOTHING;
        }

        int secretBehind(int key) {
            return secrets.get(key);
        }

        int scrambledIn(int sector) {
            return scrambled.get(sector);
        }

        int inJournal(int sector) {
            return logged.get(sector);
        }

        int inCache(int sector) {
            return cache.get(sector);
        }

        int valueIn(int sector) {
            int waiting = cache.get(sector);
            return waiting != NOTHING ? waiting : exchange(scrambled.get(sector), sector, keyAt(sector));
        }

        int keyAt(int sector) {
            int first = zoneFirst();
            boolean isRewritten = sector >= first && sector < first + rewritten;
            return isRewritten ? otherKey(keyByPosition(sector)) : keyByPosition(sector);
        }

        private int keyByPosition(int sector) {
            return isRekeying() && sector < position ? target : ownKey;
        }

        private int otherKey(int key) {
            return key == ownKey ? target : ownKey;
        }

        /** Scrambles a value with a key, and unscrambles it just so: the same mask does both. */
        private int exchange(int number, int sector, int key) {
            int mask = 40503 * secrets.get(key) + 30011 * sector + 12345;
            return number ^ (mask & MAX_VALUE);
        }

        private void fillWithZeros() {
            cache.clear();
            for (int s = 0; s < sectors; s++) {
                scrambled.set(s, exchange(0, s, ownKey));
                expected.set(s, 0);
            }
        }

        // ---- rekeying

        boolean isRekeying() {
            return target != NO_KEY;
        }

        int zoneFirst() {
            return forward ? position : Math.max(0, position - zoneSize);
        }

        private int zoneEnd() {
            return forward ? Math.min(sectors, position + zoneSize) : position;
        }

        private boolean isZoneOpen() {
            return rewritten > 0 || logged.filled() > 0;
        }

        private boolean needsJournal() {
            return journalUsed && !isZoneOpen();
        }

        void makeStep() {
            if (needsJournal()) {
                for (int s = zoneFirst(); s < zoneEnd(); s++) {
                    logged.set(s, scrambled.get(s));
                }
            } else if (zoneFirst() + rewritten < zoneEnd()) {
                rewriteNext(zoneFirst() + rewritten);
            } else {
                position = forward ? zoneEnd() : zoneFirst();
                closeZone();
                endIfThrough();
            }
        }

        private void rewriteNext(int sector) {
            int from = keyByPosition(sector);
            int value = exchange(scrambled.get(sector), sector, from);
            scrambled.set(sector, exchange(value, sector, otherKey(from)));
            rewritten++;
        }

        private void closeZone() {
            logged.clear();
            rewritten = 0;
        }

        private void endIfThrough() {
            if (forward && position >= sectors) {
                ownKey = target;
                completed++;
                target = NO_KEY;
            } else if (!forward && position <= 0) {
                target = NO_KEY;
            }
        }

        /** Counts by zones, not by trying: start and digest would pay dearly for each step. */
        int stepsAhead() {
            if (!isRekeying()) {
                return 0;
            }
            int thisZone = (needsJournal() ? 1 : 0) + zoneEnd() - zoneFirst() - rewritten + 1;
            int rest = forward ? sectors - zoneEnd() : zoneFirst();
            int zones = zoneSize > 0 ? (rest + zoneSize - 1) / zoneSize : 0;
            return thisZone + rest + zones * (journalUsed ? 2 : 1);
        }

        // ---- what a flush or a power failure would leave

        private boolean isFlushable(int sector) {
            boolean stays = isZoneOpen() && sector >= zoneFirst() && sector < zoneEnd();
            return cache.get(sector) != NOTHING && !stays;
        }

        int scrambledAfterFlush(int sector) {
            return isFlushable(sector)
                ? exchange(cache.get(sector), sector, keyAt(sector))
                : scrambled.get(sector);
        }

        private int scrambledAfterFailure(int sector) {
            int before = logged.get(sector);
            return before != NOTHING ? before : scrambled.get(sector);
        }

        /** By the position alone, as the disk then knows no more what is rewritten. */
        private int valueAfterFailure(int sector) {
            return exchange(scrambledAfterFailure(sector), sector, keyByPosition(sector));
        }

        int damageAfterFailure() {
            int damage = 0;
            for (int s = 0; s < sectors; s++) {
                if (valueAfterFailure(s) != expected.get(s)) {
                    damage++;
                }
            }
            return damage;
        }

        int damageCount() {
            int damage = 0;
            for (int s = 0; s < sectors; s++) {
                if (valueIn(s) != expected.get(s)) {
                    damage++;
                }
            }
            return damage;
        }

        int firstDamage() {
            for (int s = 0; s < sectors; s++) {
                if (valueIn(s) != expected.get(s)) {
                    return s;
                }
            }
            return NOTHING;
        }

        // ---- the numbers that count answers

        int numberOfRekeying(int what) {
            if (!isRekeying()) {
                return NONE;
            }
            if (what == 2) {
                return target;
            }
            if (what == 3) {
                return position;
            }
            return forward ? 1 : 0;
        }

        int number(int what) {
            switch (what) {
                case 0: return sectors;
                case 1: return ownKey;
                case 5: return rewritten;
                case 6: return logged.filled();
                case 7: return cache.filled();
                case 8: return zoneSize;
                case 9: return journalUsed ? 1 : 0;
                case 10: return secrets.filled();
                case 11: return completed;
                case 12: return failures;
                default: return BAD_VALUE;
            }
        }
    }

    /**
     * The saved states, in a ring. It has one slot more than states, for the draft of a call of
     * which is not yet known whether it answers an error code.
     */
    private static final class History {
        private static final int SLOTS = MAX_SAVED + 1;
        private final Disk[] slots = new Disk[SLOTS];
        private int next = 0;
        private int saved = 0;

        History() {
            for (int i = 0; i < slots.length; i++) {
                slots[i] = new Disk();
            }
        }

        private Disk slot(int i) {
            return i >= 0 && i < slots.length ? slots[i] : null;
        }

        void draft(Disk disk) {
            Disk slot = slot(next);
            if (slot != null) {
                slot.takeOver(disk);
            }
        }

        /** Saves the draft unless the answer is an error code, and hands the answer on. */
        int keep(int answer) {
            if (answer >= 0) {
                next = (next + 1) % SLOTS;
                saved = Math.min(saved + 1, MAX_SAVED);
            }
            return answer;
        }

        int bringBack(Disk disk) {
            int last = (next + SLOTS - 1) % SLOTS;
            Disk slot = slot(last);
            if (saved == 0 || slot == null) {
                return NOT_POSSIBLE;
            }
            disk.takeOver(slot);
            next = last;
            saved--;
            return saved;
        }
    }

    /** The text, as a row of character codes. */
    private static final class Script {
        /** Where a reader of the text can be; in a number, the digits read are added. */
        private static final int DEAD_END = -1;
        private static final int AT_COMMAND = 0;
        private static final int BEHIND_COMMAND = 1;
        private static final int IN_SECTOR = 10;
        private static final int IN_LAST_NUMBER = 20;

        private final Row codes = new Row(MAX_TEXT);
        private final Row letters = new Row(MAX_COMMANDS);
        private final Row sectors = new Row(MAX_COMMANDS);
        private final Row numbers = new Row(MAX_COMMANDS);
        private int length = 0;

        int append(int code) {
            if (code < 33 || code > 126) {
                return BAD_VALUE;
            }
            if (length >= MAX_TEXT) {
                return LIMIT;
            }
            codes.set(length, code);
            length++;
            return length;
        }

        int empty() {
            int previous = length;
            length = 0;
            return previous;
        }

        int firstError() {
            int place = AT_COMMAND;
            for (int i = 0; i < length; i++) {
                place = placeBehind(place, codes.get(i));
                if (place == DEAD_END) {
                    return i;
                }
            }
            boolean isScript = place == BEHIND_COMMAND || place > IN_LAST_NUMBER;
            return isScript ? NONE : length;
        }

        private static int placeBehind(int place, int code) {
            if (place == AT_COMMAND) {
                return placeBehindLetter(code);
            }
            if (place == BEHIND_COMMAND) {
                return code == ';' ? AT_COMMAND : DEAD_END;
            }
            int number = place < IN_LAST_NUMBER ? IN_SECTOR : IN_LAST_NUMBER;
            if (isDigit(code)) {
                return place < number + MAX_DIGITS ? place + 1 : DEAD_END;
            }
            if (place == number) {
                return DEAD_END;
            }
            if (number == IN_SECTOR) {
                return code == '=' ? IN_LAST_NUMBER : DEAD_END;
            }
            return code == ';' ? AT_COMMAND : DEAD_END;
        }

        private static int placeBehindLetter(int code) {
            switch (code) {
                case 'w': return IN_SECTOR;
                case 's': return IN_LAST_NUMBER;
                case 'f':
                case 'x':
                case 'b': return BEHIND_COMMAND;
                default: return DEAD_END;
            }
        }

        private static boolean isDigit(int code) {
            return code >= '0' && code <= '9';
        }

        /** Splits a text that is a script into its commands, and answers how many they are. */
        int split() {
            int commands = 0;
            int number = 0;
            for (int i = 0; i < length; i++) {
                int code = codes.get(i);
                if (isDigit(code)) {
                    number = 10 * number + code - '0';
                    numbers.set(commands - 1, number);
                } else if (code == '=') {
                    sectors.set(commands - 1, number);
                    number = 0;
                } else if (code != ';') {
                    letters.set(commands, code);
                    commands++;
                    number = 0;
                }
            }
            return commands;
        }

        int letter(int command) {
            return letters.get(command);
        }

        int sector(int command) {
            return sectors.get(command);
        }

        int number(int command) {
            return numbers.get(command);
        }
    }
}
