/** Promises 11 to 13: write, flush, fail. */
public final class HostTest {
    private static final Checks CHECKS = new Checks();

    public static void main(String[] args) {
        writeAnswers();
        writeLimit();
        flush();
        flushInRekeying();
        flushInOpenZoneGoingBack();
        failWithoutRekeying();
        failWithJournal();
        failInTheFirstAndLastZone();
        failWithoutJournal();
        failGoingBack();
        failWithEqualSecrets();
        failCountsOtherValues();
        CHECKS.end();
    }

    private static void writeAnswers() {
        DiskRekeying x = new DiskRekeying();
        int[] none = {16, -1, 64, Integer.MIN_VALUE, Integer.MAX_VALUE};
        for (int sector : none) {
            CHECKS.due("write(" + sector + ", 0)", x.write(sector, 0), -1);
            CHECKS.due("write(" + sector + ", -1)", x.write(sector, -1), -1);
        }
        int[] bad = {-1, 65536, Integer.MIN_VALUE, Integer.MAX_VALUE};
        for (int value : bad) {
            CHECKS.due("write(0, " + value + ")", x.write(0, value), -2);
        }
        CHECKS.due("undo() behind errors", x.undo(), -3);
        CHECKS.due("write(15, 65535)", x.write(15, 65535), 1);
        CHECKS.due("write(0, 0)", x.write(0, 0), 2);
        CHECKS.due("write(15, 4)", x.write(15, 4), 2);
        CHECKS.due("read(15)", x.read(15), 4);
        CHECKS.due("cached(15)", x.cached(15), 4);
        CHECKS.due("cached(0)", x.cached(0), 0);
        CHECKS.due("stored(15)", x.stored(15), Checks.scramble(0, 15, 0));
        CHECKS.due("undo()", x.undo(), 2);
        CHECKS.due("cached(15) undone", x.cached(15), 65535);
        CHECKS.due("damaged()", x.damaged(), 0);
    }

    private static void writeLimit() {
        DiskRekeying x = new DiskRekeying();
        for (int s = 0; s < 8; s++) {
            CHECKS.due("write(" + s + ", 7)", x.write(s, 7), s + 1);
        }
        CHECKS.due("write(8, 7)", x.write(8, 7), -4);
        CHECKS.due("write(8, 65536) before the limit", x.write(8, 65536), -2);
        CHECKS.due("write(16, 7) before the limit", x.write(16, 7), -1);
        CHECKS.due("cached(8)", x.cached(8), -6);
        CHECKS.due("damaged()", x.damaged(), 0);
        CHECKS.due("write(3, 8)", x.write(3, 8), 8);
        CHECKS.due("flush()", x.flush(), 8);
        CHECKS.due("write(8, 7) then", x.write(8, 7), 1);
    }

    private static void flush() {
        DiskRekeying x = new DiskRekeying();
        CHECKS.due("flush() of nothing", x.flush(), 0);
        CHECKS.due("undo() of flush", x.undo(), 0);
        x.write(5, 1000);
        x.write(2, 2000);
        CHECKS.due("flush()", x.flush(), 2);
        CHECKS.due("stored(5)", x.stored(5), Checks.scramble(1000, 5, 0));
        CHECKS.due("stored(2)", x.stored(2), Checks.scramble(2000, 2, 0));
        CHECKS.due("read(2)", x.read(2), 2000);
        CHECKS.due("cached(2)", x.cached(2), -6);
        CHECKS.due("count(7)", x.count(7), 0);
        CHECKS.due("undo()", x.undo(), 2);
        CHECKS.due("cached(2) undone", x.cached(2), 2000);
        CHECKS.due("stored(2) undone", x.stored(2), Checks.scramble(0, 2, 0));
    }

    private static void flushInRekeying() {
        DiskRekeying x = new DiskRekeying();
        x.addKey(7, 901);
        x.start(7);
        x.steps(6);
        x.write(0, 10);
        x.write(4, 14);
        x.write(8, 18);
        CHECKS.due("flush() between zones", x.flush(), 3);
        CHECKS.due("stored(0)", x.stored(0), Checks.scramble(10, 0, 901));
        CHECKS.due("stored(4)", x.stored(4), Checks.scramble(14, 4, 0));
        CHECKS.due("stored(8)", x.stored(8), Checks.scramble(18, 8, 0));
        x.write(3, 23);
        x.write(4, 24);
        x.write(7, 27);
        x.write(8, 28);
        x.steps(1);
        CHECKS.due("flush() with a journal", x.flush(), 2);
        CHECKS.due("cached(4)", x.cached(4), 24);
        CHECKS.due("cached(7)", x.cached(7), 27);
        CHECKS.due("stored(3)", x.stored(3), Checks.scramble(23, 3, 901));
        CHECKS.due("stored(8)", x.stored(8), Checks.scramble(28, 8, 0));
        CHECKS.due("stored(4) stays", x.stored(4), Checks.scramble(14, 4, 0));
        x.steps(5);
        CHECKS.due("flush() behind the zone", x.flush(), 2);
        CHECKS.due("stored(7)", x.stored(7), Checks.scramble(27, 7, 901));
        CHECKS.due("damaged()", x.damaged(), 0);
    }

    private static void flushInOpenZoneGoingBack() {
        DiskRekeying x = new DiskRekeying();
        x.addKey(7, 901);
        x.setJournal(0);
        x.start(7);
        x.steps(10);
        x.turnBack();
        x.steps(1);
        for (int s = 3; s <= 8; s++) {
            x.write(s, 100 + s);
        }
        CHECKS.due("flush()", x.flush(), 2);
        CHECKS.due("stored(3)", x.stored(3), Checks.scramble(103, 3, 901));
        CHECKS.due("stored(8)", x.stored(8), Checks.scramble(108, 8, 0));
        CHECKS.due("cached(4)", x.cached(4), 104);
        CHECKS.due("cached(7)", x.cached(7), 107);
    }

    private static void failWithoutRekeying() {
        DiskRekeying x = new DiskRekeying();
        CHECKS.due("fail()", x.fail(), 0);
        x.write(1, 5);
        x.write(2, 0);
        x.write(3, 6);
        CHECKS.due("fail() with a cache", x.fail(), 2);
        CHECKS.due("read(1)", x.read(1), 0);
        CHECKS.due("count(7)", x.count(7), 0);
        CHECKS.due("count(12)", x.count(12), 2);
        CHECKS.due("damaged()", x.damaged(), 2);
        CHECKS.due("undo()", x.undo(), 4);
        CHECKS.due("read(1) undone", x.read(1), 5);
        CHECKS.due("count(12) undone", x.count(12), 1);
    }

    private static void failWithJournal() {
        DiskRekeying x = new DiskRekeying();
        x.addKey(7, 901);
        x.write(1, 50);
        x.flush();
        x.start(7);
        x.steps(9);
        CHECKS.due("count(5)", x.count(5), 2);
        CHECKS.due("fail()", x.fail(), 0);
        CHECKS.due("stored(4)", x.stored(4), Checks.scramble(0, 4, 0));
        CHECKS.due("stored(0)", x.stored(0), Checks.scramble(0, 0, 901));
        CHECKS.due("count(5) then", x.count(5), 0);
        CHECKS.due("count(6) then", x.count(6), 0);
        CHECKS.due("count(3) then", x.count(3), 4);
        CHECKS.due("count(2) then", x.count(2), 7);
        CHECKS.due("damaged()", x.damaged(), 0);
        CHECKS.due("steps(999)", x.steps(999), 18);
        CHECKS.due("read(1)", x.read(1), 50);
        CHECKS.due("damaged() at the end", x.damaged(), 0);
    }

    private static void failInTheFirstAndLastZone() {
        for (int journal = 0; journal <= 1; journal++) {
            DiskRekeying x = new DiskRekeying();
            x.addKey(7, 901);
            x.setJournal(journal);
            x.write(0, 1);
            x.write(15, 2);
            x.flush();
            x.start(7);
            x.steps(4 + journal);
            x.write(0, 9);
            CHECKS.due("fail() in the first zone", x.fail(), journal == 1 ? 1 : 4);
            int key = journal == 1 ? 0 : 901;
            CHECKS.due("stored(0)", x.stored(0), Checks.scramble(1, 0, key));
            CHECKS.due("stored(3)", x.stored(3), Checks.scramble(0, 3, key));
            x.steps(3 * (5 + journal) + 4 + journal);
            CHECKS.due("count(5)", x.count(5), 4);
            CHECKS.due("fail() in the last zone", x.fail(), journal == 1 ? 0 : 4);
            CHECKS.due("stored(15)", x.stored(15), Checks.scramble(2, 15, key));
        }
    }

    private static void failWithoutJournal() {
        DiskRekeying x = new DiskRekeying();
        x.addKey(7, 901);
        x.setJournal(0);
        x.start(7);
        x.steps(7);
        CHECKS.due("count(5)", x.count(5), 2);
        CHECKS.due("fail()", x.fail(), 2);
        CHECKS.due("stored(4)", x.stored(4), Checks.scramble(0, 4, 901));
        CHECKS.due("keyOf(4)", x.keyOf(4), 1);
        CHECKS.due("read(4)", x.read(4), Checks.scramble(0, 4, 901) ^ Checks.scramble(0, 4, 0));
        CHECKS.due("damaged()", x.damaged(), 2);
        CHECKS.due("firstDamaged()", x.firstDamaged(), 4);
        CHECKS.due("turnBack() then", x.turnBack(), 5);
    }

    private static void failGoingBack() {
        DiskRekeying x = new DiskRekeying();
        x.addKey(7, 901);
        x.setJournal(0);
        x.start(7);
        x.steps(10);
        x.turnBack();
        x.steps(3);
        CHECKS.due("fail()", x.fail(), 3);
        CHECKS.due("keyOf(4)", x.keyOf(4), 7);
        CHECKS.due("stored(4)", x.stored(4), Checks.scramble(0, 4, 0));
        CHECKS.due("count(4)", x.count(4), 0);
        CHECKS.due("count(3)", x.count(3), 8);
    }

    private static void failWithEqualSecrets() {
        DiskRekeying x = new DiskRekeying();
        x.addKey(7, 0);
        x.setJournal(0);
        x.start(7);
        x.steps(3);
        CHECKS.due("fail() with equal secrets", x.fail(), 0);
        CHECKS.due("damaged()", x.damaged(), 0);
        CHECKS.due("keyOf(0)", x.keyOf(0), 1);
    }

    private static void failCountsOtherValues() {
        DiskRekeying x = new DiskRekeying();
        x.addKey(7, 901);
        x.setJournal(0);
        x.start(7);
        x.steps(3);
        int garbled = Checks.scramble(0, 0, 901) ^ Checks.scramble(0, 0, 0);
        x.write(0, garbled);
        CHECKS.due("fail() with a value that stays by chance", x.fail(), 2);
        CHECKS.due("read(0)", x.read(0), garbled);
        CHECKS.due("damaged()", x.damaged(), 2);
    }
}
