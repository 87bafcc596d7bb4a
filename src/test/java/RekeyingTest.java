/** Promises 6 to 10: setZone, setJournal, start, steps, turnBack. */
public final class RekeyingTest {
    private static final Checks CHECKS = new Checks();

    public static void main(String[] args) {
        setZone();
        setJournal();
        startAnswers();
        startCounts();
        stepsAnswers();
        stepsOneByOne();
        stepsWithoutJournal();
        stepsToTheEnd();
        stepsBack();
        cacheStaysInRewrittenSectors();
        turnBackAnswers();
        turnBackAtTheFirstSector();
        turnBackTwice();
        CHECKS.end();
    }

    private static DiskRekeying withKeyTwo(int secret) {
        DiskRekeying x = new DiskRekeying();
        x.addKey(2, secret);
        return x;
    }

    private static void setZone() {
        DiskRekeying x = withKeyTwo(5);
        int[] bad = {0, 9, -1, Integer.MIN_VALUE, Integer.MAX_VALUE};
        for (int size : bad) {
            CHECKS.due("setZone(" + size + ")", x.setZone(size), -2);
        }
        CHECKS.due("setZone(1)", x.setZone(1), 4);
        CHECKS.due("setZone(8)", x.setZone(8), 1);
        CHECKS.due("count(8)", x.count(8), 8);
        CHECKS.due("undo()", x.undo(), 2);
        CHECKS.due("count(8) undone", x.count(8), 1);
        x.start(2);
        CHECKS.due("setZone(2) before a step", x.setZone(2), 1);
        x.steps(1);
        CHECKS.due("setZone(3) with a journal", x.setZone(3), -3);
        CHECKS.due("setZone(0) with a journal", x.setZone(0), -2);
        x.steps(1);
        CHECKS.due("setZone(3) with a rewritten sector", x.setZone(3), -3);
        x.fail();
        CHECKS.due("setZone(3) behind a power failure", x.setZone(3), 2);
        x.setJournal(0);
        x.steps(1);
        CHECKS.due("setZone(4) rewritten, no journal", x.setZone(4), -3);
        x.steps(3);
        CHECKS.due("setZone(4) between zones", x.setZone(4), 3);
        CHECKS.due("count(3)", x.count(3), 3);
    }

    private static void setJournal() {
        DiskRekeying x = withKeyTwo(5);
        int[] bad = {2, -1, Integer.MIN_VALUE, Integer.MAX_VALUE};
        for (int on : bad) {
            CHECKS.due("setJournal(" + on + ")", x.setJournal(on), -2);
        }
        CHECKS.due("setJournal(1)", x.setJournal(1), 1);
        CHECKS.due("setJournal(0)", x.setJournal(0), 1);
        CHECKS.due("count(9)", x.count(9), 0);
        CHECKS.due("setJournal(0) again", x.setJournal(0), 0);
        CHECKS.due("undo()", x.undo(), 3);
        CHECKS.due("undo()", x.undo(), 2);
        CHECKS.due("count(9) undone", x.count(9), 1);
        x.start(2);
        x.steps(1);
        CHECKS.due("setJournal(0) with a journal", x.setJournal(0), -3);
        CHECKS.due("setJournal(2) with a journal", x.setJournal(2), -2);
        x.steps(5);
        CHECKS.due("setJournal(0) between zones", x.setJournal(0), 1);
        x.steps(1);
        CHECKS.due("journal(4), not used", x.journal(4), -6);
        CHECKS.due("count(5)", x.count(5), 1);
        CHECKS.due("setJournal(1) with a rewritten sector", x.setJournal(1), -3);
    }

    private static void startAnswers() {
        DiskRekeying x = withKeyTwo(5);
        x.addKey(3, 6);
        int[] none = {0, 4, 100, -1, Integer.MIN_VALUE, Integer.MAX_VALUE};
        for (int key : none) {
            CHECKS.due("start(" + key + ")", x.start(key), -1);
        }
        CHECKS.due("start(1)", x.start(1), -3);
        CHECKS.due("start(2)", x.start(2), 24);
        CHECKS.due("start(3) in a rekeying", x.start(3), -3);
        CHECKS.due("start(2) in a rekeying", x.start(2), -3);
        CHECKS.due("start(4) in a rekeying", x.start(4), -1);
        CHECKS.due("count(2)", x.count(2), 2);
        CHECKS.due("count(3)", x.count(3), 0);
        CHECKS.due("count(4)", x.count(4), 1);
        CHECKS.due("undo()", x.undo(), 2);
        CHECKS.due("count(2) undone", x.count(2), -6);
        CHECKS.due("start(3) then", x.start(3), 24);
    }

    private static void startCounts() {
        for (int sectors = 4; sectors <= 64; sectors++) {
            for (int zone = 1; zone <= 8; zone++) {
                for (int on = 0; on <= 1; on++) {
                    DiskRekeying x = withKeyTwo(5);
                    x.format(sectors);
                    x.setZone(zone);
                    x.setJournal(on);
                    int zones = (int) Math.ceil(sectors / (double) zone);
                    String name = sectors + "/" + zone + "/" + on;
                    CHECKS.due("start(2) of " + name, x.start(2), sectors + zones * (1 + on));
                    CHECKS.due("steps(999) of " + name, x.steps(999), sectors + zones * (1 + on));
                }
            }
        }
    }

    private static void stepsAnswers() {
        DiskRekeying x = withKeyTwo(5);
        CHECKS.due("steps(1) without a rekeying", x.steps(1), -3);
        CHECKS.due("steps(0) without a rekeying", x.steps(0), -2);
        x.start(2);
        int[] bad = {0, -1, 1000, Integer.MIN_VALUE, Integer.MAX_VALUE};
        for (int steps : bad) {
            CHECKS.due("steps(" + steps + ")", x.steps(steps), -2);
        }
        CHECKS.due("stepsLeft()", x.stepsLeft(), 24);
        CHECKS.due("steps(23)", x.steps(23), 23);
        CHECKS.due("count(2) before the last step", x.count(2), 2);
        CHECKS.due("count(3) before the last step", x.count(3), 12);
        CHECKS.due("steps(2)", x.steps(2), 1);
        CHECKS.due("steps(1) behind the end", x.steps(1), -3);
        CHECKS.due("undo()", x.undo(), 3);
        CHECKS.due("stepsLeft() undone", x.stepsLeft(), 1);
    }

    private static void stepsOneByOne() {
        DiskRekeying x = withKeyTwo(500);
        x.setZone(2);
        x.start(2);
        x.steps(1);
        CHECKS.due("journal(0)", x.journal(0), Checks.scramble(0, 0, 0));
        CHECKS.due("journal(1)", x.journal(1), Checks.scramble(0, 1, 0));
        CHECKS.due("journal(2)", x.journal(2), -6);
        CHECKS.due("stored(0) before", x.stored(0), Checks.scramble(0, 0, 0));
        CHECKS.due("count(5) before", x.count(5), 0);
        x.steps(1);
        CHECKS.due("stored(0)", x.stored(0), Checks.scramble(0, 0, 500));
        CHECKS.due("stored(1)", x.stored(1), Checks.scramble(0, 1, 0));
        CHECKS.due("keyOf(0)", x.keyOf(0), 2);
        CHECKS.due("keyOf(1)", x.keyOf(1), 1);
        CHECKS.due("journal(0) still", x.journal(0), Checks.scramble(0, 0, 0));
        CHECKS.due("count(5)", x.count(5), 1);
        x.steps(1);
        CHECKS.due("count(3) before it moves", x.count(3), 0);
        CHECKS.due("count(5) before it moves", x.count(5), 2);
        CHECKS.due("count(6) before it moves", x.count(6), 2);
        x.steps(1);
        CHECKS.due("count(3)", x.count(3), 2);
        CHECKS.due("count(5) then", x.count(5), 0);
        CHECKS.due("count(6) then", x.count(6), 0);
        CHECKS.due("keyOf(1) then", x.keyOf(1), 2);
        CHECKS.due("read(1) then", x.read(1), 0);
    }

    private static void stepsWithoutJournal() {
        DiskRekeying x = withKeyTwo(500);
        x.setJournal(0);
        x.start(2);
        x.steps(1);
        CHECKS.due("count(6)", x.count(6), 0);
        CHECKS.due("count(5)", x.count(5), 1);
        CHECKS.due("stored(0)", x.stored(0), Checks.scramble(0, 0, 500));
        x.steps(4);
        CHECKS.due("count(3)", x.count(3), 4);
        CHECKS.due("count(5) then", x.count(5), 0);
    }

    private static void stepsToTheEnd() {
        DiskRekeying x = withKeyTwo(777);
        x.format(5);
        x.write(4, 321);
        x.flush();
        CHECKS.due("start(2)", x.start(2), 9);
        CHECKS.due("steps(8)", x.steps(8), 8);
        CHECKS.due("count(5)", x.count(5), 1);
        CHECKS.due("count(11)", x.count(11), 0);
        CHECKS.due("count(1)", x.count(1), 1);
        CHECKS.due("steps(999)", x.steps(999), 1);
        CHECKS.due("count(1) then", x.count(1), 2);
        CHECKS.due("count(2) then", x.count(2), -6);
        CHECKS.due("count(11) then", x.count(11), 1);
        CHECKS.due("count(6) then", x.count(6), 0);
        CHECKS.due("count(5) then", x.count(5), 0);
        CHECKS.due("read(4)", x.read(4), 321);
        CHECKS.due("stored(4)", x.stored(4), Checks.scramble(321, 4, 777));
        CHECKS.due("start(1) the other way", x.start(1), 9);
        CHECKS.due("steps(999) the other way", x.steps(999), 9);
        CHECKS.due("stored(4) again", x.stored(4), Checks.scramble(321, 4, 0));
        CHECKS.due("count(11) again", x.count(11), 2);
    }

    private static void stepsBack() {
        DiskRekeying x = withKeyTwo(777);
        x.start(2);
        x.steps(12);
        x.setZone(3);
        CHECKS.due("turnBack()", x.turnBack(), 14);
        CHECKS.due("zoneStart()", x.zoneStart(), 5);
        x.steps(1);
        CHECKS.due("journal(4)", x.journal(4), -6);
        CHECKS.due("journal(5)", x.journal(5), Checks.scramble(0, 5, 777));
        CHECKS.due("journal(8)", x.journal(8), -6);
        x.steps(1);
        CHECKS.due("stored(5)", x.stored(5), Checks.scramble(0, 5, 0));
        CHECKS.due("keyOf(5)", x.keyOf(5), 1);
        CHECKS.due("keyOf(6)", x.keyOf(6), 2);
        CHECKS.due("keyOf(4)", x.keyOf(4), 2);
        CHECKS.due("keyOf(8)", x.keyOf(8), 1);
        x.steps(3);
        CHECKS.due("count(3)", x.count(3), 5);
        x.steps(5);
        CHECKS.due("count(3) then", x.count(3), 2);
        CHECKS.due("zoneStart() of the short zone", x.zoneStart(), 0);
        CHECKS.due("steps(9)", x.steps(9), 4);
        CHECKS.due("count(1)", x.count(1), 1);
        CHECKS.due("count(2)", x.count(2), -6);
        CHECKS.due("count(11)", x.count(11), 0);
        CHECKS.due("stored(0)", x.stored(0), Checks.scramble(0, 0, 0));
    }

    private static void cacheStaysInRewrittenSectors() {
        DiskRekeying x = withKeyTwo(3);
        x.setJournal(0);
        x.write(0, 99);
        x.start(2);
        x.steps(1);
        CHECKS.due("cached(0)", x.cached(0), 99);
        CHECKS.due("stored(0)", x.stored(0), Checks.scramble(0, 0, 3));
        x.steps(4);
        CHECKS.due("cached(0) behind its zone", x.cached(0), 99);
        CHECKS.due("flush()", x.flush(), 1);
        CHECKS.due("stored(0) flushed", x.stored(0), Checks.scramble(99, 0, 3));
    }

    private static void turnBackAnswers() {
        DiskRekeying x = withKeyTwo(3);
        CHECKS.due("turnBack() without a rekeying", x.turnBack(), -3);
        x.start(2);
        CHECKS.due("turnBack() at the start", x.turnBack(), 0);
        CHECKS.due("count(2)", x.count(2), -6);
        CHECKS.due("count(1)", x.count(1), 1);
        CHECKS.due("count(11)", x.count(11), 0);
        CHECKS.due("undo()", x.undo(), 2);
        CHECKS.due("count(2) undone", x.count(2), 2);
        CHECKS.due("count(4) undone", x.count(4), 1);
        x.steps(1);
        CHECKS.due("turnBack() with a journal", x.turnBack(), -3);
        x.steps(1);
        CHECKS.due("turnBack() with a rewritten sector", x.turnBack(), -3);
        x.fail();
        CHECKS.due("turnBack() behind a failure", x.turnBack(), 0);
        x.setJournal(0);
        x.start(2);
        x.steps(2);
        CHECKS.due("turnBack() rewritten, no journal", x.turnBack(), -3);
        x.steps(3);
        CHECKS.due("turnBack() between zones", x.turnBack(), 5);
        CHECKS.due("count(4)", x.count(4), 0);
    }

    private static void turnBackAtTheFirstSector() {
        DiskRekeying x = withKeyTwo(3);
        x.setZone(1);
        x.start(2);
        x.steps(3);
        CHECKS.due("count(3)", x.count(3), 1);
        CHECKS.due("turnBack() at 1", x.turnBack(), 3);
        CHECKS.due("count(2) at 1", x.count(2), 2);
        CHECKS.due("steps(9) from 1", x.steps(9), 3);
        CHECKS.due("count(2) at 0", x.count(2), -6);
        CHECKS.due("stored(0)", x.stored(0), Checks.scramble(0, 0, 0));
        x.start(2);
        x.steps(3 * 15);
        CHECKS.due("turnBack() at 15", x.turnBack(), 45);
        CHECKS.due("turnBack() at 15 forward", x.turnBack(), 3);
        CHECKS.due("count(2) at 15", x.count(2), 2);
    }

    private static void turnBackTwice() {
        DiskRekeying x = withKeyTwo(3);
        x.start(2);
        x.steps(12);
        CHECKS.due("turnBack()", x.turnBack(), 12);
        CHECKS.due("steps(6)", x.steps(6), 6);
        CHECKS.due("turnBack() forward", x.turnBack(), 18);
        CHECKS.due("count(4)", x.count(4), 1);
        CHECKS.due("count(3)", x.count(3), 4);
        CHECKS.due("zoneStart()", x.zoneStart(), 4);
        CHECKS.due("steps(999)", x.steps(999), 18);
        CHECKS.due("count(1)", x.count(1), 2);
        CHECKS.due("count(11)", x.count(11), 1);
        CHECKS.due("stored(15)", x.stored(15), Checks.scramble(0, 15, 3));
    }
}
