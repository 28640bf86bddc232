/** Counts answers that are not as due, for the tests' main methods. */
final class Due {
    private static int asked = 0;
    private static int wrong = 0;

    private Due() {
    }

    interface Call {
        long answer();
    }

    static void is(String what, long got, long due) {
        asked++;
        if (got != due) {
            wrong++;
            System.out.println(what + " answered " + got + ", due is " + due);
        }
    }

    static void is(String what, boolean got, boolean due) {
        is(what, got ? 1 : 0, due ? 1 : 0);
    }

    static void is(String what, String got, String due) {
        asked++;
        if (!got.equals(due)) {
            wrong++;
            System.out.println(what + " answered " + got + ", due is " + due);
        }
    }

    /** The answer as a text, or throws. and the exception's name. */
    static String outcome(Call call) {
        try {
            return Long.toString(call.answer());
        } catch (RuntimeException e) {
            return "throws." + e.getClass().getSimpleName();
        }
    }

    static void throwing(String what, Class<? extends RuntimeException> due, Call call) {
        is(what, outcome(call), "throws." + due.getSimpleName());
    }

    static int wrong() {
        return wrong;
    }

    static boolean allWell() {
        return wrong == 0;
    }

    static void finish() {
        System.out.println((asked - wrong) + " answers as due, " + wrong + " not");
        if (wrong != 0) {
            System.exit(1);
        }
    }
}
