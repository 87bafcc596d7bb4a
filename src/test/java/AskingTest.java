/** Promises 14 to 22: count, read, stored, keyOf, journal, cached, zoneStart, damaged, firstDamaged. */
public final class AskingTest {
    private static final Checks CHECKS = new Checks();
    private static final int[] NO_SECTOR = {16, 17, 64, -1, Integer.MIN_VALUE, Integer.MAX_VALUE};

    public static void main(String[] args) {
        count();
        countFailuresAndRekeyings();
        sectorsThatAreNot();
        valuesOfSectors();
        zoneStart();
        damaged();
        askingSavesNothing();
        CHECKS.end();
    }

    private static void count() {
        DiskRekeying x = new DiskRekeying();
        int[] bad = {-1, 13, Integer.MIN_VALUE, Integer.MAX_VALUE};
        for (int what : bad) {
            CHECKS.due("count(" + what + ")", x.count(what), -2);
        }
        x.format(30);
        x.addKey(60, 5);
        x.addKey(61, 6);
        x.setZone(5);
        x.write(3, 9);
        x.start(60);
        x.steps(7 + 3);
        int[] numbers = {30, 1, 60, 5, 1, 2, 5, 1, 5, 1, 3, 0, 0};
        for (int what = 0; what < numbers.length; what++) {
            CHECKS.due("count(" + what + ")", x.count(what), numbers[what]);
        }
        x.steps(4);
        x.turnBack();
        CHECKS.due("count(4) back", x.count(4), 0);
        CHECKS.due("count(3) back", x.count(3), 10);
    }

    private static void countFailuresAndRekeyings() {
        DiskRekeying x = new DiskRekeying();
        x.addKey(2, 5);
        x.fail();
        x.fail();
        x.start(2);
        x.steps(999);
        x.start(1);
        x.steps(999);
        x.start(2);
        x.turnBack();
        CHECKS.due("count(11)", x.count(11), 2);
        CHECKS.due("count(12)", x.count(12), 2);
        CHECKS.due("count(2)", x.count(2), -6);
        CHECKS.due("count(3)", x.count(3), -6);
        CHECKS.due("count(4)", x.count(4), -6);
    }

    private static void sectorsThatAreNot() {
        DiskRekeying x = new DiskRekeying();
        for (int sector : NO_SECTOR) {
            CHECKS.due("read(" + sector + ")", x.read(sector), -1);
            CHECKS.due("stored(" + sector + ")", x.stored(sector), -1);
            CHECKS.due("keyOf(" + sector + ")", x.keyOf(sector), -1);
            CHECKS.due("journal(" + sector + ")", x.journal(sector), -1);
            CHECKS.due("cached(" + sector + ")", x.cached(sector), -1);
            CHECKS.due("ifFlushed(" + sector + ")", x.ifFlushed(sector), -1);
        }
    }

    private static void valuesOfSectors() {
        DiskRekeying x = new DiskRekeying();
        x.addKey(9, 12345);
        x.write(1, 65535);
        x.flush();
        x.write(2, 0);
        x.start(9);
        x.steps(3);
        CHECKS.due("read(1)", x.read(1), 65535);
        CHECKS.due("stored(1)", x.stored(1), Checks.scramble(65535, 1, 12345));
        CHECKS.due("journal(1)", x.journal(1), Checks.scramble(65535, 1, 0));
        CHECKS.due("journal(3)", x.journal(3), Checks.scramble(0, 3, 0));
        CHECKS.due("journal(4)", x.journal(4), -6);
        CHECKS.due("keyOf(0)", x.keyOf(0), 9);
        CHECKS.due("keyOf(1)", x.keyOf(1), 9);
        CHECKS.due("keyOf(2)", x.keyOf(2), 1);
        CHECKS.due("keyOf(15)", x.keyOf(15), 1);
        CHECKS.due("cached(2)", x.cached(2), 0);
        CHECKS.due("cached(1)", x.cached(1), -6);
        x.write(2, 77);
        CHECKS.due("read(2)", x.read(2), 77);
        CHECKS.due("stored(2)", x.stored(2), Checks.scramble(0, 2, 0));
        x.fail();
        CHECKS.due("keyOf(0) behind a failure", x.keyOf(0), 1);
        CHECKS.due("journal(0) behind a failure", x.journal(0), -6);
        CHECKS.due("cached(2) behind a failure", x.cached(2), -6);
        CHECKS.due("read(2) behind a failure", x.read(2), 0);
    }

    private static void zoneStart() {
        DiskRekeying x = new DiskRekeying();
        x.addKey(9, 12345);
        CHECKS.due("zoneStart() without a rekeying", x.zoneStart(), -3);
        x.start(9);
        CHECKS.due("zoneStart()", x.zoneStart(), 0);
        x.steps(5);
        CHECKS.due("zoneStart() before it moves", x.zoneStart(), 0);
        x.steps(1);
        CHECKS.due("zoneStart() then", x.zoneStart(), 4);
        x.turnBack();
        CHECKS.due("zoneStart() back", x.zoneStart(), 0);
        x.setZone(1);
        CHECKS.due("zoneStart() of a small zone", x.zoneStart(), 3);
        x.setZone(8);
        CHECKS.due("zoneStart() of a large zone", x.zoneStart(), 0);
    }

    private static void damaged() {
        DiskRekeying x = new DiskRekeying();
        CHECKS.due("damaged()", x.damaged(), 0);
        CHECKS.due("firstDamaged()", x.firstDamaged(), -6);
        x.write(15, 1);
        x.write(14, 2);
        CHECKS.due("damaged() with a cache", x.damaged(), 0);
        x.fail();
        CHECKS.due("damaged() then", x.damaged(), 2);
        CHECKS.due("firstDamaged() then", x.firstDamaged(), 14);
        x.write(14, 3);
        CHECKS.due("damaged() mended", x.damaged(), 1);
        CHECKS.due("firstDamaged() mended", x.firstDamaged(), 15);
        x.write(0, 3);
        x.fail();
        CHECKS.due("firstDamaged() of 0", x.firstDamaged(), 0);
        CHECKS.due("damaged() of 3", x.damaged(), 3);
        x.undo();
        CHECKS.due("damaged() undone", x.damaged(), 1);
    }

    private static void askingSavesNothing() {
        DiskRekeying x = new DiskRekeying();
        x.addKey(9, 12345);
        x.start(9);
        x.steps(3);
        long before = x.digest();
        x.count(0);
        x.read(0);
        x.stored(0);
        x.keyOf(0);
        x.journal(0);
        x.cached(0);
        x.zoneStart();
        x.damaged();
        x.firstDamaged();
        x.stepsLeft();
        x.ifFailed(20);
        x.worstTime();
        x.ifFlushed(0);
        x.secretOf(9);
        x.syntaxError();
        CHECKS.due("digest()", x.digest(), before);
        CHECKS.due("undo()", x.undo(), 2);
    }
}
