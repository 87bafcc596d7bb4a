/** Promises 31 and 32: undo, digest. */
public final class UndoTest {
    private static final Checks CHECKS = new Checks();

    public static void main(String[] args) {
        undoOfEveryCall();
        sixStates();
        sixStatesAgainAndAgain();
        errorsSaveNothing();
        undoLeavesText();
        digestOfNew();
        digestByTheList();
        CHECKS.end();
    }

    private static void undoOfEveryCall() {
        DiskRekeying x = new DiskRekeying();
        x.addKey(2, 600);
        x.addKey(3, 700);
        x.write(0, 1);
        x.write(9, 2);
        x.start(2);
        x.steps(6);
        for (int call = 0; call < 12; call++) {
            long before = x.digest();
            CHECKS.due("call " + call + " saves", change(x, call) >= 0 ? 1 : 0, 1);
            CHECKS.due("undo() of call " + call, x.undo(), 5);
            CHECKS.due("digest() behind undo of call " + call, x.digest(), before);
            x.flush();
            x.undo();
            x.format(16);
            x.write(0, 1);
            x.write(9, 2);
            x.start(2);
            x.steps(6);
            x.write(9, 2);
        }
    }

    private static int change(DiskRekeying x, int call) {
        switch (call) {
            case 0: return x.format(40);
            case 1: return x.addKey(50, 1);
            case 2: return x.removeKey(3);
            case 3: return x.setZone(3);
            case 4: return x.setJournal(0);
            case 5: return x.steps(3);
            case 6: return x.turnBack();
            case 7: return x.write(4, 4);
            case 8: return x.flush();
            case 9: return x.fail();
            case 10: return x.steps(999);
            default:
                Checks.type(x, "w4=4;f;s8;x");
                return x.carryOut();
        }
    }

    private static void sixStates() {
        DiskRekeying x = new DiskRekeying();
        CHECKS.due("undo() of nothing", x.undo(), -3);
        for (int value = 1; value <= 7; value++) {
            x.write(0, value);
        }
        for (int left = 5; left >= 0; left--) {
            CHECKS.due("undo()", x.undo(), left);
            CHECKS.due("read(0)", x.read(0), left + 1);
        }
        CHECKS.due("undo() of the seventh", x.undo(), -3);
        CHECKS.due("read(0) at the last", x.read(0), 1);
    }

    private static void sixStatesAgainAndAgain() {
        DiskRekeying x = new DiskRekeying();
        for (int round = 0; round < 20; round++) {
            for (int value = 0; value < 4; value++) {
                x.write(0, 10 * round + value);
            }
            CHECKS.due("undo()", x.undo(), round == 0 ? 3 : 5);
            CHECKS.due("undo()", x.undo(), round == 0 ? 2 : 4);
            CHECKS.due("read(0)", x.read(0), 10 * round + 1);
        }
    }

    private static void errorsSaveNothing() {
        DiskRekeying x = new DiskRekeying();
        x.write(1, 1);
        x.format(3);
        x.addKey(1, 1);
        x.removeKey(1);
        x.setZone(0);
        x.setJournal(2);
        x.start(1);
        x.steps(1);
        x.turnBack();
        x.write(16, 1);
        x.carryOut();
        CHECKS.due("undo() behind errors", x.undo(), 0);
        CHECKS.due("cached(1)", x.cached(1), -6);
    }

    private static void undoLeavesText() {
        DiskRekeying x = new DiskRekeying();
        x.type('f');
        x.write(1, 1);
        x.type('f');
        CHECKS.due("undo()", x.undo(), 0);
        CHECKS.due("clearText()", x.clearText(), 2);
    }

    private static void digestOfNew() {
        DiskRekeying x = new DiskRekeying();
        long empty = x.digest();
        CHECKS.due("digest() twice", x.digest(), empty);
        CHECKS.due("digest() of a new object", empty, digestDue(x));
        Checks.type(x, "text");
        CHECKS.due("digest() does not know the text", x.digest(), empty);
    }

    private static void digestByTheList() {
        DiskRekeying x = new DiskRekeying();
        x.addKey(99, 65535);
        x.addKey(50, 1);
        x.format(33);
        x.write(7, 70);
        x.start(99);
        x.steps(9);
        CHECKS.due("digest() in a rekeying", x.digest(), digestDue(x));
        x.fail();
        CHECKS.due("digest() behind a failure", x.digest(), digestDue(x));
        x.steps(999);
        CHECKS.due("digest() behind the rekeying", x.digest(), digestDue(x));
    }

    private static long digestDue(DiskRekeying x) {
        java.util.List<Integer> list = new java.util.ArrayList<>();
        for (int what = 0; what <= 12; what++) {
            list.add(x.count(what));
        }
        for (int key = 1; key <= 99; key++) {
            if (x.secretOf(key) != DiskRekeying.NO_SUCH) {
                list.add(key);
                list.add(x.secretOf(key));
            }
        }
        for (int s = 0; s < x.count(0); s++) {
            list.addAll(java.util.List.of(x.read(s), x.stored(s), x.keyOf(s), x.journal(s), x.cached(s)));
        }
        list.add(x.damaged());
        list.add(x.firstDamaged());
        if (x.count(2) != DiskRekeying.NONE) {
            list.add(x.zoneStart());
            list.add(x.stepsLeft());
        }
        long hash = 392;
        for (int v : list) {
            hash = 31 * hash + v;
        }
        return hash;
    }
}
