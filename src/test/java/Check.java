/** Counts the checks of the project's tests and prints those that fail. */
final class Check {
    interface Call {
        long answer();
    }

    private static int passed = 0;
    private static int failed = 0;

    private Check() {
    }

    static void due(String what, long want, long got) {
        note(got == want, what + " answered " + got + ", due is " + want);
    }

    static void due(String what, boolean want, boolean got) {
        note(got == want, what + " answered " + got + ", due is " + want);
    }

    static void due(String what, String want, String got) {
        note(want.equals(got), what + " answered " + got + ", due is " + want);
    }

    static void index(String what, Call call) {
        due(what, "IndexOutOfBoundsException", outcome(call));
    }

    static void argument(String what, Call call) {
        due(what, "IllegalArgumentException", outcome(call));
    }

    static void state(String what, Call call) {
        due(what, "IllegalStateException", outcome(call));
    }

    /**
     * The answer of a call, or the name of the very class that it throws: an exception of the Java
     * machine, whose class is one below those of the document, does not pass for one of these.
     */
    static String outcome(Call call) {
        try {
            return Long.toString(call.answer());
        } catch (RuntimeException e) {
            return e.getClass().getSimpleName();
        }
    }

    private static void note(boolean good, String fault) {
        if (good) {
            passed++;
        } else {
            failed++;
            System.out.println("FAILED " + fault);
        }
    }

    /** Prints the closing line; answers whether all went well, and there was something to check. */
    static boolean close() {
        System.out.println(passed + " passed, " + failed + " failed");
        return failed == 0 && passed > 0;
    }
}
