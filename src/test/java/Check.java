import java.util.function.LongSupplier;

/** Compares answers with those that are due, and prints each one that is not. */
final class Check {
    private static int wrong;

    private Check() {
    }

    static void is(String what, long got, long due) {
        if (got != due) {
            wrong++;
            System.out.println(what + " answered " + got + ", due is " + due);
        }
    }

    static void isTrue(String what, boolean got) {
        is(what, got ? 1 : 0, 1);
    }

    static void isFalse(String what, boolean got) {
        is(what, got ? 1 : 0, 0);
    }

    static void isReal(String what, double got, double due) {
        if (got != due) {
            wrong++;
            System.out.println(what + " answered " + got + ", due is " + due);
        }
    }

    static void isText(String what, String got, String due) {
        if (!got.equals(due)) {
            wrong++;
            System.out.println(what + " answered " + got + ", due is " + due);
        }
    }

    /** The call throws just this exception; that it changes nothing is what RefusedTest is for. */
    static void refuses(String what, Class<? extends RuntimeException> due, LongSupplier call) {
        String got = "no exception";
        try {
            call.getAsLong();
        } catch (RuntimeException e) {
            got = e.getClass().getName();
        }
        isText(what, got, due.getName());
    }

    static void end() {
        if (wrong != 0) {
            System.out.println(wrong + " answers are not as due");
            System.exit(1);
        }
    }
}
