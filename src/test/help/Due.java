/** Holds answers against those that are due, and counts the wrong ones. */
final class Due {
    private static final int MOST_TOLD = 50;

    private static int wrong = 0;

    private Due() {
    }

    static void answer(String where, String call, long got, long want) {
        if (got != want) {
            say(where + ": " + call + " answered " + got + ", due is " + want);
        }
    }

    /** Want is written as above/below. */
    static void fraction(String where, String call, long above, long below, String want) {
        String got = above + "/" + below;
        if (!got.equals(want)) {
            say(where + ": " + call + " answered " + got + ", due is " + want);
        }
    }

    static void say(String fault) {
        wrong++;
        if (wrong <= MOST_TOLD) {
            System.out.println(fault);
        }
    }

    /** The last call of each test. */
    static void finish() {
        System.out.println(wrong == 0 ? "all answers are as due" : wrong + " answers are not as due");
        if (wrong != 0) {
            System.exit(1);
        }
    }
}
