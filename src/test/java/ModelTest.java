import java.util.Random;

/** Runs of 512 calls, the same ones every time, on the program and on the model; every answer is compared. */
public final class ModelTest {
    private static final Checks CHECKS = new Checks();
    private static final int RUNS = 1500;
    private static final int CALLS = 512;
    private static final int[] EDGES = {Integer.MIN_VALUE, -1, 0, 1, 8, 9, 16, 64, 65, 99, 100, 999, 1000, 65535,
        65536, Integer.MAX_VALUE};
    private static final String SIGNS = "wfsxb;=0123456789";

    private final Random random;
    private final DiskRekeying x = new DiskRekeying();
    private final Model model = new Model();
    private final String run;

    private ModelTest(int seed) {
        random = new Random(seed);
        run = "run " + seed;
    }

    public static void main(String[] args) {
        for (int seed = 0; seed < RUNS; seed++) {
            new ModelTest(seed).play();
        }
        CHECKS.end();
    }

    private void play() {
        int made = 0;
        while (made < CALLS - 90) {
            made += random.nextInt(3) == 0 ? ask() : change();
            due("digest()", x.digest(), model.digest());
            made++;
        }
    }

    private void due(String call, long got, long want) {
        CHECKS.due(run + ": " + call, got, want);
    }

    /** A number below the bound mostly, and an edge now and then. */
    private int some(int bound) {
        return random.nextInt(25) == 0 ? EDGES[random.nextInt(EDGES.length)] : random.nextInt(bound);
    }

    private int someKey() {
        return some(12);
    }

    private int change() {
        int a;
        int b;
        switch (random.nextInt(22)) {
            case 0:
                a = random.nextInt(4) > 0 ? -5 : some(70);
                due("format(" + a + ")", x.format(a), model.format(a));
                return 1;
            case 1: case 2:
                a = someKey();
                b = random.nextInt(3) == 0 ? random.nextInt(2) : some(65536);
                due("addKey(" + a + ", " + b + ")", x.addKey(a, b), model.addKey(a, b));
                return 1;
            case 3:
                a = someKey();
                due("removeKey(" + a + ")", x.removeKey(a), model.removeKey(a));
                return 1;
            case 4:
                a = some(9);
                due("setZone(" + a + ")", x.setZone(a), model.setZone(a));
                return 1;
            case 5:
                a = some(2);
                due("setJournal(" + a + ")", x.setJournal(a), model.setJournal(a));
                return 1;
            case 6: case 7: case 8:
                a = someKey();
                due("start(" + a + ")", x.start(a), model.start(a));
                return 1;
            case 9: case 10: case 11:
                a = random.nextInt(8) == 0 ? some(1000) : some(12);
                due("steps(" + a + ")", x.steps(a), model.steps(a));
                return 1;
            case 12: case 13:
                due("turnBack()", x.turnBack(), model.turnBack());
                return 1;
            case 14: case 15: case 16:
                a = some(20);
                b = random.nextInt(3) == 0 ? random.nextInt(3) : some(65536);
                due("write(" + a + ", " + b + ")", x.write(a, b), model.write(a, b));
                return 1;
            case 17:
                due("flush()", x.flush(), model.flush());
                return 1;
            case 18:
                due("fail()", x.fail(), model.fail());
                return 1;
            case 19:
                due("undo()", x.undo(), model.undo());
                return 1;
            case 20:
                return script();
            default:
                return randomText();
        }
    }

    private int ask() {
        int a;
        switch (random.nextInt(15)) {
            case 0:
                a = some(13);
                due("count(" + a + ")", x.count(a), model.count(a));
                return 1;
            case 1:
                a = some(20);
                due("read(" + a + ")", x.read(a), model.read(a));
                return 1;
            case 2:
                a = some(20);
                due("stored(" + a + ")", x.stored(a), model.stored(a));
                return 1;
            case 3:
                a = some(20);
                due("keyOf(" + a + ")", x.keyOf(a), model.keyOf(a));
                return 1;
            case 4:
                a = some(20);
                due("journal(" + a + ")", x.journal(a), model.journal(a));
                return 1;
            case 5:
                a = some(20);
                due("cached(" + a + ")", x.cached(a), model.cached(a));
                return 1;
            case 6:
                due("zoneStart()", x.zoneStart(), model.zoneStart());
                return 1;
            case 7:
                due("damaged()", x.damaged(), model.damaged());
                return 1;
            case 8:
                due("firstDamaged()", x.firstDamaged(), model.firstDamaged());
                return 1;
            case 9:
                due("stepsLeft()", x.stepsLeft(), model.stepsLeft());
                return 1;
            case 10: case 11:
                a = random.nextInt(4) == 0 ? some(1000) : some(30);
                due("ifFailed(" + a + ")", x.ifFailed(a), model.ifFailed(a));
                return 1;
            case 12:
                due("worstTime()", x.worstTime(), model.worstTime());
                return 1;
            case 13:
                a = some(20);
                due("ifFlushed(" + a + ")", x.ifFlushed(a), model.ifFlushed(a));
                return 1;
            default:
                a = someKey();
                due("secretOf(" + a + ")", x.secretOf(a), model.secretOf(a));
                return 1;
        }
    }

    private int typed(String text) {
        for (int i = 0; i < text.length(); i++) {
            int code = text.charAt(i);
            due("type(" + code + ")", x.type(code), model.type(code));
        }
        due("syntaxError()", x.syntaxError(), model.syntaxError());
        return text.length() + 1;
    }

    private int script() {
        StringBuilder text = new StringBuilder();
        int commands = 1 + random.nextInt(6);
        for (int i = 0; i < commands; i++) {
            text.append(i > 0 ? ";" : "").append(command());
        }
        int made = typed(text.toString());
        due("carryOut() of " + text, x.carryOut(), model.carryOut());
        return made + 1;
    }

    private String command() {
        switch (random.nextInt(5)) {
            case 0: return "w" + random.nextInt(18) + "=" + random.nextInt(66000);
            case 1: return "f";
            case 2: return "s" + (random.nextBoolean() ? random.nextInt(20) : random.nextInt(1100));
            case 3: return "x";
            default: return "b";
        }
    }

    private int randomText() {
        StringBuilder text = new StringBuilder();
        int length = random.nextInt(8);
        for (int i = 0; i < length; i++) {
            text.append(random.nextInt(40) == 0 ? (char) some(130) : SIGNS.charAt(random.nextInt(SIGNS.length())));
        }
        int made = typed(text.toString());
        if (random.nextBoolean()) {
            due("clearText() of " + text, x.clearText(), model.clearText());
        } else {
            due("carryOut() of " + text, x.carryOut(), model.carryOut());
        }
        return made + 1;
    }
}
