import java.util.function.LongSupplier;

/** Counts and prints the answers that are not due; a test's main ends with finish(). */
final class Expect {
    private static int checked = 0;
    private static int wrong = 0;

    private Expect() {
    }

    static void same(String what, long got, long due) {
        text(what, Long.toString(got), Long.toString(due));
    }

    static void same(String what, boolean got, boolean due) {
        text(what, Boolean.toString(got), Boolean.toString(due));
    }

    static void text(String what, String got, String due) {
        checked++;
        if (!got.equals(due)) {
            wrong++;
            System.out.println(what + " answered " + got + ", due is " + due);
        }
    }

    /** The exact class counts: an exception of the machine would be a subclass of the one that is due. */
    static void thrown(String what, Class<? extends RuntimeException> due, LongSupplier call) {
        text(what, answer(call), "throws." + due.getSimpleName());
    }

    static String answer(LongSupplier call) {
        try {
            return Long.toString(call.getAsLong());
        } catch (RuntimeException e) {
            return "throws." + e.getClass().getSimpleName();
        }
    }

    static void finish() {
        System.out.println(checked + " answers, " + wrong + " not as due");
        if (wrong != 0 || checked == 0) {
            System.exit(1);
        }
    }
}
