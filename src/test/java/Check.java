/** Counts and prints the calls whose answer is not the one that is due. */
final class Check {
    /** A call of the face; a boolean answer counts 1 or 0. */
    interface Call {
        long answer();
    }

    static final String INDEX = "IndexOutOfBoundsException";
    static final String ARGUMENT = "IllegalArgumentException";
    static final String STATE = "IllegalStateException";

    private int calls = 0;
    private int wrong = 0;

    /** The answer as text, or the simple name of what the call throws, and a mark where no throw statement did. */
    static String outcome(Call call) {
        try {
            return Long.toString(call.answer());
        } catch (RuntimeException e) {
            return e.getClass().getSimpleName() + (isThrownByStatement(e) ? "" : " of the machine or the library");
        }
    }

    private static boolean isThrownByStatement(RuntimeException e) {
        // The library's own throws begin in its classes, and those that the machine throws with speed have no trace.
        StackTraceElement[] trace = e.getStackTrace();
        return trace.length > 0 && !trace[0].getClassName().startsWith("java.")
                && !trace[0].getClassName().startsWith("jdk.");
    }

    void due(String what, long want, Call call) {
        compare(what, Long.toString(want), outcome(call));
    }

    void due(String what, boolean want, boolean got) {
        compare(what, Boolean.toString(want), Boolean.toString(got));
    }

    void throwing(String what, String want, Call call) {
        compare(what, want, outcome(call));
    }

    void compare(String what, String want, String got) {
        calls++;
        if (!want.equals(got)) {
            wrong++;
            System.out.println(what + " answered " + got + ", due is " + want);
        }
    }

    void end() {
        System.out.println(calls + " answers looked at, " + wrong + " wrong");
        if (wrong != 0) {
            System.exit(1);
        }
    }
}
