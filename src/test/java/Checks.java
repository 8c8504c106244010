/** Counts the answers that are not due, and prints each. */
final class Checks {
    static final Class<? extends RuntimeException> INDEX = IndexOutOfBoundsException.class;
    static final Class<? extends RuntimeException> ARGUMENT = IllegalArgumentException.class;
    static final Class<? extends RuntimeException> STATE = IllegalStateException.class;

    interface Call {
        long answer();
    }

    private static int wrong = 0;
    private static String heading = "";

    private Checks() {
    }

    /** What is printed ahead of the answers that are not due. */
    static void under(String text) {
        heading = text + ": ";
    }

    static void complain(String text) {
        wrong++;
        System.out.println(heading + text);
    }

    static void due(String what, long got, long want) {
        if (got != want) {
            complain(what + " answered " + got + ", due is " + want);
        }
    }

    static void due(String what, boolean got, boolean want) {
        due(what, got ? 1 : 0, want ? 1 : 0);
    }

    /** The very class is asked for: what the machine throws is of a class below it. */
    static void dueThrow(String what, Class<? extends RuntimeException> want, Call call) {
        String got;
        try {
            got = "answered " + call.answer();
        } catch (RuntimeException e) {
            if (e.getClass() == want) {
                return;
            }
            got = "threw " + e.getClass().getName();
        }
        complain(what + " " + got + ", due is " + want.getName());
    }

    /** The machine's own exceptions are of classes below these. */
    static boolean isOfDocument(RuntimeException e) {
        return e.getClass() == INDEX || e.getClass() == ARGUMENT || e.getClass() == STATE;
    }

    static void finish() {
        if (wrong != 0) {
            System.out.println(wrong + " answers are not as due");
            System.exit(1);
        }
    }
}
