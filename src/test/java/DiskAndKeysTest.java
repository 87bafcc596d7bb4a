/** Promises 1 to 5: a new object, format, addKey, removeKey, secretOf. */
public final class DiskAndKeysTest {
    private static final Checks CHECKS = new Checks();
    private static final int[] NEW_NUMBERS = {16, 1, -6, -6, -6, 0, 0, 0, 4, 1, 1, 0, 0};

    public static void main(String[] args) {
        newObject();
        formatAnswers();
        formatEmpties();
        formatKeeps();
        formatUsesOwnKey();
        addKeyEdges();
        addKeyLimit();
        removeKey();
        removeKeyOfRekeying();
        secretOf();
        CHECKS.end();
    }

    private static void newObject() {
        DiskRekeying x = new DiskRekeying();
        for (int what = 0; what < NEW_NUMBERS.length; what++) {
            CHECKS.due("new: count(" + what + ")", x.count(what), NEW_NUMBERS[what]);
        }
        for (int s = 0; s < 16; s++) {
            CHECKS.due("new: read(" + s + ")", x.read(s), 0);
            CHECKS.due("new: stored(" + s + ")", x.stored(s), (30011 * s + 12345) % 65536);
            CHECKS.due("new: keyOf(" + s + ")", x.keyOf(s), 1);
            CHECKS.due("new: journal(" + s + ")", x.journal(s), -6);
            CHECKS.due("new: cached(" + s + ")", x.cached(s), -6);
        }
        CHECKS.due("new: read(16)", x.read(16), -1);
        CHECKS.due("new: secretOf(1)", x.secretOf(1), 0);
        CHECKS.due("new: damaged()", x.damaged(), 0);
        CHECKS.due("new: syntaxError()", x.syntaxError(), 0);
        CHECKS.due("new: clearText()", x.clearText(), 0);
        CHECKS.due("new: undo()", x.undo(), -3);
    }

    private static void formatAnswers() {
        DiskRekeying x = new DiskRekeying();
        int[] bad = {3, 65, 0, -1, Integer.MIN_VALUE, Integer.MAX_VALUE};
        for (int sectors : bad) {
            CHECKS.due("format(" + sectors + ")", x.format(sectors), -2);
        }
        CHECKS.due("undo() behind bad formats", x.undo(), -3);
        CHECKS.due("format(4)", x.format(4), 16);
        CHECKS.due("read(3) of 4", x.read(3), 0);
        CHECKS.due("read(4) of 4", x.read(4), -1);
        CHECKS.due("format(64)", x.format(64), 4);
        CHECKS.due("read(63) of 64", x.read(63), 0);
        CHECKS.due("read(64) of 64", x.read(64), -1);
        CHECKS.due("undo() of format", x.undo(), 1);
        CHECKS.due("count(0) behind undo", x.count(0), 4);
    }

    private static void formatEmpties() {
        DiskRekeying x = new DiskRekeying();
        x.addKey(2, 500);
        x.write(0, 11);
        x.write(9, 22);
        x.start(2);
        x.steps(3);
        x.write(10, 33);
        CHECKS.due("format(8) in an open zone", x.format(8), 16);
        int[] numbers = {8, 1, -6, -6, -6, 0, 0, 0, 4, 1, 2, 0, 0};
        for (int what = 0; what < numbers.length; what++) {
            CHECKS.due("formatted: count(" + what + ")", x.count(what), numbers[what]);
        }
        for (int s = 0; s < 8; s++) {
            CHECKS.due("formatted: read(" + s + ")", x.read(s), 0);
            CHECKS.due("formatted: stored(" + s + ")", x.stored(s), Checks.scramble(0, s, 0));
            CHECKS.due("formatted: journal(" + s + ")", x.journal(s), -6);
            CHECKS.due("formatted: cached(" + s + ")", x.cached(s), -6);
        }
        CHECKS.due("formatted: damaged()", x.damaged(), 0);
        CHECKS.due("formatted: setZone(4)", x.setZone(4), 4);
        CHECKS.due("formatted: format(16)", x.format(16), 8);
        CHECKS.due("formatted: cached(10)", x.cached(10), -6);
        CHECKS.due("formatted: start(2)", x.start(2), 24);
    }

    private static void formatKeeps() {
        DiskRekeying x = new DiskRekeying();
        x.addKey(2, 500);
        x.setZone(7);
        x.setJournal(0);
        x.start(2);
        x.steps(999);
        x.fail();
        x.format(16);
        int[] numbers = {16, 2, -6, -6, -6, 0, 0, 0, 7, 0, 2, 1, 1};
        for (int what = 0; what < numbers.length; what++) {
            CHECKS.due("kept: count(" + what + ")", x.count(what), numbers[what]);
        }
        CHECKS.due("kept: secretOf(2)", x.secretOf(2), 500);
    }

    private static void formatUsesOwnKey() {
        DiskRekeying x = new DiskRekeying();
        x.addKey(50, 40000);
        x.start(50);
        x.steps(999);
        x.write(3, 7);
        x.format(20);
        for (int s = 0; s < 20; s++) {
            CHECKS.due("own key: stored(" + s + ")", x.stored(s), Checks.scramble(0, s, 40000));
            CHECKS.due("own key: keyOf(" + s + ")", x.keyOf(s), 50);
        }
    }

    private static void addKeyEdges() {
        DiskRekeying x = new DiskRekeying();
        int[][] bad = {{0, 1}, {100, 1}, {-1, 1}, {2, -1}, {2, 65536}, {0, -1}, {1, -1}, {1, 65536},
            {Integer.MIN_VALUE, 0}, {Integer.MAX_VALUE, 0}, {5, Integer.MIN_VALUE}, {5, Integer.MAX_VALUE}};
        for (int[] pair : bad) {
            CHECKS.due("addKey(" + pair[0] + ", " + pair[1] + ")", x.addKey(pair[0], pair[1]), -2);
        }
        CHECKS.due("addKey(1, 0)", x.addKey(1, 0), -3);
        CHECKS.due("undo() behind errors", x.undo(), -3);
        CHECKS.due("addKey(99, 65535)", x.addKey(99, 65535), 2);
        CHECKS.due("addKey(2, 0)", x.addKey(2, 0), 3);
        CHECKS.due("secretOf(99)", x.secretOf(99), 65535);
        CHECKS.due("secretOf(2)", x.secretOf(2), 0);
        CHECKS.due("addKey(99, 1)", x.addKey(99, 1), -3);
        CHECKS.due("secretOf(99) still", x.secretOf(99), 65535);
        CHECKS.due("undo()", x.undo(), 1);
        CHECKS.due("secretOf(2) undone", x.secretOf(2), -1);
        CHECKS.due("count(10)", x.count(10), 2);
    }

    private static void addKeyLimit() {
        DiskRekeying x = new DiskRekeying();
        for (int key = 2; key <= 8; key++) {
            CHECKS.due("addKey(" + key + ", 3)", x.addKey(key, 3), key);
        }
        CHECKS.due("addKey(9, 3)", x.addKey(9, 3), -4);
        CHECKS.due("addKey(8, 3) before the limit", x.addKey(8, 3), -3);
        CHECKS.due("addKey(9, -1) before the limit", x.addKey(9, -1), -2);
        CHECKS.due("secretOf(9)", x.secretOf(9), -1);
        CHECKS.due("removeKey(2)", x.removeKey(2), 7);
        CHECKS.due("addKey(9, 3) again", x.addKey(9, 3), 8);
    }

    private static void removeKey() {
        DiskRekeying x = new DiskRekeying();
        int[] none = {0, 2, 99, 100, -1, Integer.MIN_VALUE, Integer.MAX_VALUE};
        for (int key : none) {
            CHECKS.due("removeKey(" + key + ")", x.removeKey(key), -1);
        }
        CHECKS.due("removeKey(1)", x.removeKey(1), -3);
        CHECKS.due("undo() behind errors", x.undo(), -3);
        x.addKey(2, 9);
        CHECKS.due("removeKey(2)", x.removeKey(2), 1);
        CHECKS.due("removeKey(2) twice", x.removeKey(2), -1);
        CHECKS.due("undo() of removeKey", x.undo(), 1);
        CHECKS.due("secretOf(2) again", x.secretOf(2), 9);
    }

    private static void removeKeyOfRekeying() {
        DiskRekeying x = new DiskRekeying();
        x.addKey(2, 9);
        x.addKey(3, 10);
        x.start(2);
        CHECKS.due("removeKey(2) as target", x.removeKey(2), -3);
        CHECKS.due("removeKey(1) as own key", x.removeKey(1), -3);
        CHECKS.due("removeKey(3) meanwhile", x.removeKey(3), 2);
        x.steps(999);
        CHECKS.due("removeKey(2) as own key", x.removeKey(2), -3);
        CHECKS.due("removeKey(1), no more own key", x.removeKey(1), 1);
        CHECKS.due("secretOf(1)", x.secretOf(1), -1);
    }

    private static void secretOf() {
        DiskRekeying x = new DiskRekeying();
        int[] none = {0, 2, 100, -1, Integer.MIN_VALUE, Integer.MAX_VALUE};
        for (int key : none) {
            CHECKS.due("secretOf(" + key + ")", x.secretOf(key), -1);
        }
        x.addKey(98, 1234);
        CHECKS.due("secretOf(98)", x.secretOf(98), 1234);
        CHECKS.due("secretOf(1)", x.secretOf(1), 0);
    }
}
