import java.util.List;
import java.util.function.LongSupplier;

/** Counts what is as it is due, and prints what is not. */
final class Check {
    private static int passed = 0;
    private static int failed = 0;

    private Check() {
    }

    static void same(String what, String got, String due) {
        if (got.equals(due)) {
            passed++;
        } else {
            failed++;
            if (failed <= 40) {
                System.out.println(what + " answered " + got + ", due is " + due);
            }
        }
    }

    static void same(String what, long got, long due) {
        same(what, Long.toString(got), Long.toString(due));
    }

    /** Tells the first line that is not the same. */
    static void same(String what, List<String> got, List<String> due) {
        int at = 0;
        while (at < got.size() && at < due.size() && got.get(at).equals(due.get(at))) {
            at++;
        }
        same(what, at < got.size() ? got.get(at) : "all", at < due.size() ? due.get(at) : "all");
    }

    static void yes(String what, boolean isSo) {
        same(what, Boolean.toString(isSo), "true");
    }

    /** The answer of a call, or the name of what it throws. */
    static String answer(LongSupplier call) {
        try {
            return Long.toString(call.getAsLong());
        } catch (RuntimeException e) {
            return e.getClass().getSimpleName();
        }
    }

    static void answers(String what, LongSupplier call, long due) {
        same(what, answer(call), Long.toString(due));
    }

    static void refuses(String what, LongSupplier call, Class<? extends RuntimeException> due) {
        same(what, answer(call), due.getSimpleName());
    }

    /** Prints the count, and ends with exit code 1 if something was not as due. */
    static void end(String suite) {
        System.out.println(suite + ": " + passed + " as due, " + failed + " not as due");
        if (failed != 0 || passed == 0) {
            System.exit(1);
        }
    }
}
