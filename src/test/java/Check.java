import java.util.function.BooleanSupplier;
import java.util.function.LongSupplier;

/** Counts tests; a test fails if one of its answers is not the one that is due. */
final class Check {
    private static int passed = 0;
    private static int failed = 0;
    private static int wrong = 0;
    private static String current = "";

    private Check() {
    }

    static void test(String name, Runnable body) {
        current = name;
        wrong = 0;
        try {
            body.run();
        } catch (RuntimeException e) {
            tell("ended with " + e);
        }
        if (wrong == 0) {
            passed++;
        } else {
            failed++;
        }
    }

    static void due(String what, long want, LongSupplier call) {
        String got;
        try {
            got = String.valueOf(call.getAsLong());
        } catch (RuntimeException e) {
            got = name(e);
        }
        same(what, String.valueOf(want), got);
    }

    static void holds(String what, boolean want, BooleanSupplier call) {
        due(what, want ? 1 : 0, () -> call.getAsBoolean() ? 1 : 0);
    }

    static void refused(String what, Class<? extends RuntimeException> want, Runnable call) {
        String got = "no exception";
        try {
            call.run();
        } catch (RuntimeException e) {
            got = name(e);
        }
        same(what, want.getSimpleName(), got);
    }

    /**
     * The very class, so that a machine's exception below the due one is wrong too; and one that the library throws
     * bears the right name only by luck.
     */
    static String name(RuntimeException e) {
        StackTraceElement[] trace = e.getStackTrace();
        boolean own = trace.length > 0 && trace[0].getClassName().startsWith("PrintKeeper");
        return e.getClass().getSimpleName() + (own ? "" : " from outside the class");
    }

    static void same(String what, String want, String got) {
        if (!want.equals(got)) {
            tell(what + " answered " + got + ", due is " + want);
        }
    }

    private static void tell(String what) {
        wrong++;
        if (wrong <= 20) {
            System.out.println(current + ": " + what);
        }
    }

    /** Ends the program with exit code 1 if a test failed. */
    static void close() {
        System.out.println("own: " + passed + " passed, " + failed + " failed");
        if (failed != 0 || passed == 0) {
            System.exit(1);
        }
    }
}
