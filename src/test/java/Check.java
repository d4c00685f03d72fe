/** Counts and prints the calls whose answer is not the one that is due. */
final class Check {
    /** A call of the face; a boolean answer counts 1 or 0. */
    interface Call {
        long answer();
    }

    /** A call of the face on the page that it is given. */
    interface Use {
        long on(Springleaf page);
    }

    static final String INDEX = "IndexOutOfBoundsException";
    static final String ARGUMENT = "IllegalArgumentException";
    static final String STATE = "IllegalStateException";

    private int calls = 0;
    private int wrong = 0;

    /** The answer as text, or the simple name of what the call throws, and a mark where no throw statement did. */
    static String outcome(Call call) {
        try {
            return Long.toString(call.answer());
        } catch (RuntimeException e) {
            return e.getClass().getSimpleName() + (isThrownByStatement(e) ? "" : " of the machine or the library");
        }
    }

    private static boolean isThrownByStatement(RuntimeException e) {
        // The library's own throws begin in its classes, and those that the machine throws with speed have no trace.
        StackTraceElement[] trace = e.getStackTrace();
        return trace.length > 0 && !trace[0].getClassName().startsWith("java.")
                && !trace[0].getClassName().startsWith("jdk.");
    }

    void due(String what, long want, Call call) {
        compare(what, Long.toString(want), outcome(call));
    }

    void due(String what, boolean want, boolean got) {
        compare(what, Boolean.toString(want), Boolean.toString(got));
    }

    void throwing(String what, String want, Call call) {
        compare(what, want, outcome(call));
    }

    /** Holds that the call throws, and that the page then tells what one that was made alike and never asked tells. */
    void refuses(String want, String what, Pages.Maker maker, Use call) {
        Springleaf page = maker.make();
        throwing(what, want, () -> call.on(page));
        compare(what + " and then all that the page tells", Pages.state(maker.make()), Pages.state(page));
    }

    void compare(String what, String want, String got) {
        calls++;
        if (!want.equals(got)) {
            wrong++;
            System.out.println(what + " answered " + got + ", due is " + want);
        }
    }

    int calls() {
        return calls;
    }

    void end() {
        System.out.println(calls + " answers looked at, " + wrong + " wrong");
        if (wrong != 0) {
            System.exit(1);
        }
    }
}
