/** Promises 27 to 30: type, clearText, syntaxError, carryOut. */
public final class TextTest {
    private static final Checks CHECKS = new Checks();

    public static void main(String[] args) {
        type();
        clearText();
        syntaxErrors();
        syntaxErrorAtFullLength();
        carryOutAll();
        carryOutStops();
        carryOutBadText();
        carryOutSavesOneState();
        carryOutManyCommands();
        CHECKS.end();
    }

    private static void type() {
        DiskRekeying x = new DiskRekeying();
        int[] bad = {32, 127, 0, -1, 128, Integer.MIN_VALUE, Integer.MAX_VALUE};
        for (int code : bad) {
            CHECKS.due("type(" + code + ")", x.type(code), -2);
        }
        CHECKS.due("type(33)", x.type(33), 1);
        CHECKS.due("type(126)", x.type(126), 2);
        for (int length = 3; length <= 80; length++) {
            CHECKS.due("type('w')", x.type('w'), length);
        }
        CHECKS.due("type('w') at 80", x.type('w'), -4);
        CHECKS.due("type(32) at 80", x.type(32), -2);
        CHECKS.due("undo(): text is not undone", x.undo(), -3);
        CHECKS.due("clearText()", x.clearText(), 80);
    }

    private static void clearText() {
        DiskRekeying x = new DiskRekeying();
        CHECKS.due("clearText() of nothing", x.clearText(), 0);
        Checks.type(x, "fff");
        CHECKS.due("clearText()", x.clearText(), 3);
        CHECKS.due("clearText() twice", x.clearText(), 0);
        CHECKS.due("type('f')", x.type('f'), 1);
        CHECKS.due("syntaxError()", x.syntaxError(), -6);
    }

    private static void error(String text, int due) {
        DiskRekeying x = new DiskRekeying();
        Checks.type(x, text);
        CHECKS.due("syntaxError() of " + text, x.syntaxError(), due);
        CHECKS.due("syntaxError() again of " + text, x.syntaxError(), due);
        CHECKS.due("clearText() of " + text, x.clearText(), text.length());
    }

    private static void syntaxErrors() {
        String[] scripts = {"f", "x", "b", "s1", "s99999", "s00000", "w0=0", "w99999=99999", "w00001=00002",
            "f;f", "w1=2;s3;x;b;f", "b;w1=1"};
        for (String script : scripts) {
            error(script, -6);
        }
        String[] unfinished = {"", "w", "w1", "w12345", "w1=", "s", "f;", "s1;", "w1=1;", "f;w", "f;w1="};
        for (String text : unfinished) {
            error(text, text.length());
        }
        error("a", 0);
        error(";", 0);
        error("1", 0);
        error("=", 0);
        error("W1=1", 0);
        error("F", 0);
        error("ff", 1);
        error("f1", 1);
        error("x=", 1);
        error("b;;", 2);
        error("f;y;", 2);
        error("w=1", 1);
        error("w;", 1);
        error("ww", 1);
        error("w1;", 2);
        error("w1f", 2);
        error("w123456", 6);
        error("w1==", 3);
        error("w1=;", 3);
        error("w1=f", 3);
        error("w1=1=", 4);
        error("w1=123456", 8);
        error("w1=1f", 4);
        error("s=", 1);
        error("s;", 1);
        error("s-1", 1);
        error("s123456", 6);
        error("s1=1", 2);
        error("s1s", 2);
        error("s1:", 2);
        error("s/", 1);
        error("w12345;", 6);
        error("f;f;w1=1;s1x", 11);
    }

    private static void syntaxErrorAtFullLength() {
        String pairs = "f;".repeat(40);
        error(pairs, 80);
        error(pairs.substring(0, 79), -6);
        error("f;".repeat(39) + "s1", -6);
        error("f;".repeat(39) + "w1", 80);
        error("f;".repeat(39) + "ff", 79);
    }

    private static void carryOutAll() {
        DiskRekeying x = new DiskRekeying();
        x.addKey(2, 55);
        x.start(2);
        Checks.type(x, "w1=300;w00002=00400;f;s6;x;b;s02");
        CHECKS.due("carryOut()", x.carryOut(), 7);
        CHECKS.due("read(1)", x.read(1), 300);
        CHECKS.due("read(2)", x.read(2), 400);
        CHECKS.due("count(12)", x.count(12), 1);
        CHECKS.due("count(4)", x.count(4), 0);
        CHECKS.due("count(5)", x.count(5), 1);
        CHECKS.due("count(3)", x.count(3), 4);
        CHECKS.due("clearText()", x.clearText(), 0);
    }

    private static void carried(String text, int due) {
        DiskRekeying x = new DiskRekeying();
        Checks.type(x, text);
        CHECKS.due("carryOut() of " + text, x.carryOut(), due);
        CHECKS.due("clearText() behind " + text, x.clearText(), 0);
        CHECKS.due("undo() behind " + text, x.undo(), 0);
    }

    private static void carryOutStops() {
        carried("s1;f", 0);
        carried("b", 0);
        DiskRekeying longer = new DiskRekeying();
        Checks.type(longer, "x;x;x;x");
        CHECKS.due("carryOut() of four commands", longer.carryOut(), 4);
        Checks.type(longer, "f");
        CHECKS.due("carryOut() of one command then", longer.carryOut(), 1);
        CHECKS.due("count(12)", longer.count(12), 4);
        Checks.type(longer, "xxx");
        longer.clearText();
        Checks.type(longer, "x");
        CHECKS.due("carryOut() behind clearText()", longer.carryOut(), 1);
        CHECKS.due("count(12) then", longer.count(12), 5);
        carried("w16=1;f", 0);
        carried("w15=65536", 0);
        carried("w15=65535", 1);
        carried("f;x;s0;f", 2);
        carried("w0=1;w1=1;w2=1;w3=1;w4=1;w5=1;w6=1;w7=1;w8=1;f", 8);
        carried("w0=1;w1=1;w2=1;w3=1;w4=1;w5=1;w6=1;w7=1;f;w8=1", 10);
        DiskRekeying x = new DiskRekeying();
        x.addKey(2, 55);
        x.start(2);
        Checks.type(x, "s1000");
        CHECKS.due("carryOut() of s1000", x.carryOut(), 0);
        Checks.type(x, "s999;f");
        CHECKS.due("carryOut() of s999;f", x.carryOut(), 2);
        Checks.type(x, "f;s1;f");
        CHECKS.due("carryOut() of f;s1;f at the end", x.carryOut(), 1);
    }

    private static void carryOutBadText() {
        DiskRekeying x = new DiskRekeying();
        CHECKS.due("carryOut() of nothing", x.carryOut(), -5);
        Checks.type(x, "w1=5;f;");
        CHECKS.due("carryOut() of an unfinished text", x.carryOut(), -5);
        CHECKS.due("read(1)", x.read(1), 0);
        CHECKS.due("undo()", x.undo(), -3);
        CHECKS.due("type('f')", x.type('f'), 8);
        CHECKS.due("carryOut()", x.carryOut(), 3);
        Checks.type(x, "f:");
        CHECKS.due("carryOut() of a wrong text", x.carryOut(), -5);
        CHECKS.due("clearText()", x.clearText(), 2);
    }

    private static void carryOutSavesOneState() {
        DiskRekeying x = new DiskRekeying();
        x.write(0, 1);
        Checks.type(x, "w0=2;w0=3;f;x");
        CHECKS.due("carryOut()", x.carryOut(), 4);
        Checks.type(x, "s1");
        CHECKS.due("carryOut() of nothing possible", x.carryOut(), 0);
        Checks.type(x, "zz");
        CHECKS.due("undo()", x.undo(), 2);
        CHECKS.due("read(0)", x.read(0), 3);
        CHECKS.due("undo() of the script", x.undo(), 1);
        CHECKS.due("read(0) then", x.read(0), 1);
        CHECKS.due("count(12) then", x.count(12), 0);
        CHECKS.due("clearText(): undo leaves the text", x.clearText(), 2);
    }

    private static void carryOutManyCommands() {
        DiskRekeying x = new DiskRekeying();
        Checks.type(x, "x;".repeat(39) + "x");
        CHECKS.due("carryOut() of 40 commands", x.carryOut(), 40);
        CHECKS.due("count(12)", x.count(12), 40);
        CHECKS.due("undo()", x.undo(), 0);
        CHECKS.due("count(12) undone", x.count(12), 0);
    }
}
