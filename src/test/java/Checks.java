/** Counts answers that are not as due, prints them, and ends the test with 1 if there was one. */
final class Checks {
    private int made = 0;
    private int wrong = 0;

    void due(String call, long got, long want) {
        made++;
        if (got != want) {
            wrong++;
            System.out.println(call + " answered " + got + ", due is " + want);
        }
    }

    void holds(String what, boolean is) {
        due(what, is ? 1 : 0, 1);
    }

    void end() {
        System.out.println(made + " answers looked at, " + wrong + " not as due");
        if (wrong > 0 || made == 0) {
            System.exit(1);
        }
    }

    /** The scrambled form as the document tells it, in long arithmetic. */
    static int scramble(int value, int sector, int secret) {
        long mask = (40503L * secret + 30011L * sector + 12345L) % 65536L;
        return value ^ (int) mask;
    }

    /** Types a text into the object, character by character. */
    static void type(DiskRekeying x, String text) {
        for (char c : text.toCharArray()) {
            x.type(c);
        }
    }
}
