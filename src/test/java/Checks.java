/** Counts tests: a test is a name with checks; it fails if a check fails or if anything is thrown. */
final class Checks {
    interface Body {
        void run() throws Exception;
    }

    private static int passed = 0;
    private static int failed = 0;
    private static int wrong = 0;

    private Checks() {
    }

    static void test(String name, Body body) {
        wrong = 0;
        try {
            body.run();
        } catch (Throwable thrown) {
            wrong++;
            System.out.println(name + ": thrown: " + thrown);
        }
        if (wrong == 0) {
            passed++;
        } else {
            failed++;
            System.out.println("FAILED " + name);
        }
    }

    static void due(String call, long got, long want) {
        if (got != want) {
            wrong++;
            System.out.println("  " + call + " answered " + got + ", due is " + want);
        }
    }

    static void isTrue(String what, boolean holds) {
        if (!holds) {
            wrong++;
            System.out.println("  does not hold: " + what);
        }
    }

    /** Prints the counts as the last line; answers the exit code. */
    static int close() {
        System.out.println(passed + " passed, " + failed + " failed");
        return failed == 0 ? 0 : 1;
    }
}
