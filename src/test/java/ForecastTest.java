/** Promises 23 to 26: stepsLeft, ifFailed, worstTime, ifFlushed. */
public final class ForecastTest {
    private static final Checks CHECKS = new Checks();

    public static void main(String[] args) {
        stepsLeftForward();
        stepsLeftBack();
        ifFailedAnswers();
        ifFailedInSteps();
        ifFailedWithCache();
        worstTimeAnswers();
        worstTimeLooksNoFurther();
        ifFlushed();
        CHECKS.end();
    }

    private static DiskRekeying withKeyTwo(int journal) {
        DiskRekeying x = new DiskRekeying();
        x.addKey(2, 600);
        x.setJournal(journal);
        return x;
    }

    private static void stepsLeftForward() {
        for (int journal = 0; journal <= 1; journal++) {
            DiskRekeying x = withKeyTwo(journal);
            CHECKS.due("stepsLeft() without a rekeying", x.stepsLeft(), -3);
            x.format(18);
            int left = x.start(2);
            CHECKS.due("start(2)", left, journal == 1 ? 28 : 23);
            while (left > 0) {
                CHECKS.due("stepsLeft()", x.stepsLeft(), left);
                x.steps(1);
                left--;
            }
            CHECKS.due("stepsLeft() at the end", x.stepsLeft(), -3);
        }
    }

    private static void stepsLeftBack() {
        DiskRekeying x = withKeyTwo(1);
        x.start(2);
        x.steps(18);
        x.setZone(5);
        int left = x.turnBack();
        CHECKS.due("turnBack()", left, 12 + 3 * 2);
        while (left > 0) {
            CHECKS.due("stepsLeft() back", x.stepsLeft(), left);
            x.steps(1);
            left--;
        }
        CHECKS.due("stepsLeft() at the end", x.stepsLeft(), -3);
        CHECKS.due("count(1)", x.count(1), 1);
    }

    private static void ifFailedAnswers() {
        DiskRekeying x = withKeyTwo(0);
        int[] bad = {-1, 1000, Integer.MIN_VALUE, Integer.MAX_VALUE};
        for (int steps : bad) {
            CHECKS.due("ifFailed(" + steps + ")", x.ifFailed(steps), -2);
        }
        CHECKS.due("ifFailed(0)", x.ifFailed(0), 0);
        CHECKS.due("ifFailed(999)", x.ifFailed(999), 0);
        x.write(4, 4);
        CHECKS.due("ifFailed(0) with a cache", x.ifFailed(0), 1);
        CHECKS.due("ifFailed(999) with a cache", x.ifFailed(999), 1);
        CHECKS.due("count(12)", x.count(12), 0);
        CHECKS.due("cached(4)", x.cached(4), 4);
    }

    private static void ifFailedInSteps() {
        DiskRekeying x = withKeyTwo(0);
        x.start(2);
        int[] due = {0, 1, 2, 3, 4, 0, 1, 2, 3, 4, 0};
        for (int steps = 0; steps < due.length; steps++) {
            CHECKS.due("ifFailed(" + steps + ")", x.ifFailed(steps), due[steps]);
        }
        CHECKS.due("ifFailed(19)", x.ifFailed(19), 4);
        CHECKS.due("ifFailed(20)", x.ifFailed(20), 0);
        CHECKS.due("ifFailed(21)", x.ifFailed(21), 0);
        CHECKS.due("stepsLeft() unchanged", x.stepsLeft(), 20);
        x.steps(2);
        CHECKS.due("ifFailed(0) in a zone", x.ifFailed(0), 2);
        CHECKS.due("ifFailed(2) in a zone", x.ifFailed(2), 4);
        CHECKS.due("ifFailed(3) in a zone", x.ifFailed(3), 0);
        DiskRekeying y = withKeyTwo(1);
        y.start(2);
        for (int steps = 0; steps <= 25; steps++) {
            CHECKS.due("ifFailed(" + steps + ") with a journal", y.ifFailed(steps), 0);
        }
    }

    private static void ifFailedWithCache() {
        DiskRekeying x = withKeyTwo(0);
        x.write(0, 1);
        x.write(1, 2);
        x.write(9, 0);
        x.start(2);
        CHECKS.due("ifFailed(0)", x.ifFailed(0), 2);
        CHECKS.due("ifFailed(4)", x.ifFailed(4), 4);
        CHECKS.due("ifFailed(5)", x.ifFailed(5), 2);
        x.fail();
        CHECKS.due("damaged()", x.damaged(), 2);
        x.write(0, 1);
        CHECKS.due("damaged() mended in the cache", x.damaged(), 1);
        CHECKS.due("ifFailed(0) again", x.ifFailed(0), 2);
    }

    private static void worstTimeAnswers() {
        DiskRekeying x = withKeyTwo(0);
        CHECKS.due("worstTime() without a rekeying", x.worstTime(), 0);
        x.write(3, 3);
        CHECKS.due("worstTime() with a cache", x.worstTime(), 0);
        x.undo();
        x.start(2);
        CHECKS.due("worstTime()", x.worstTime(), 4);
        x.steps(4);
        CHECKS.due("worstTime() now", x.worstTime(), 0);
        x.steps(1);
        CHECKS.due("worstTime() between zones", x.worstTime(), 4);
        x.format(20);
        x.setZone(8);
        x.start(2);
        x.steps(18);
        CHECKS.due("worstTime() in the short zone", x.worstTime(), 4);
        x.undo();
        CHECKS.due("worstTime() before", x.worstTime(), 8);
        CHECKS.due("stepsLeft() unchanged", x.stepsLeft(), 23);
        DiskRekeying y = withKeyTwo(1);
        y.start(2);
        CHECKS.due("worstTime() with a journal", y.worstTime(), 0);
    }

    /** In zones of one sector, the first sector that is not damaged already is rewritten last. */
    private static void worstTimeLooksNoFurther() {
        CHECKS.due("worstTime() at 97", withDamagedSectors(48).worstTime(), 97);
        CHECKS.due("worstTime() at 99", withDamagedSectors(49).worstTime(), 99);
        CHECKS.due("worstTime() beyond 99", withDamagedSectors(50).worstTime(), 0);
        DiskRekeying x = withDamagedSectors(50);
        x.steps(1);
        CHECKS.due("worstTime() at 100 only", x.worstTime(), 0);
        x.steps(1);
        CHECKS.due("worstTime() at 99 again", x.worstTime(), 99);
    }

    private static DiskRekeying withDamagedSectors(int sectors) {
        DiskRekeying x = withKeyTwo(0);
        x.format(64);
        x.setZone(1);
        for (int s = 0; s < sectors; s++) {
            x.write(s, 1);
            x.fail();
        }
        CHECKS.due("damaged() of " + sectors, x.damaged(), sectors);
        CHECKS.due("start(2)", x.start(2), 128);
        return x;
    }

    private static void ifFlushed() {
        DiskRekeying x = withKeyTwo(1);
        CHECKS.due("ifFlushed(0)", x.ifFlushed(0), Checks.scramble(0, 0, 0));
        x.start(2);
        x.steps(6);
        x.write(0, 500);
        x.write(4, 504);
        x.write(8, 508);
        CHECKS.due("ifFlushed(0) with the target", x.ifFlushed(0), Checks.scramble(500, 0, 600));
        CHECKS.due("ifFlushed(4)", x.ifFlushed(4), Checks.scramble(504, 4, 0));
        CHECKS.due("ifFlushed(8)", x.ifFlushed(8), Checks.scramble(508, 8, 0));
        CHECKS.due("ifFlushed(9) without a value", x.ifFlushed(9), Checks.scramble(0, 9, 0));
        x.steps(2);
        CHECKS.due("ifFlushed(4) in an open zone", x.ifFlushed(4), Checks.scramble(0, 4, 600));
        CHECKS.due("ifFlushed(8) behind it", x.ifFlushed(8), Checks.scramble(508, 8, 0));
        CHECKS.due("cached(8) unchanged", x.cached(8), 508);
        CHECKS.due("ifFlushed(16)", x.ifFlushed(16), -1);
        CHECKS.due("ifFlushed(-1)", x.ifFlushed(-1), -1);
    }
}
