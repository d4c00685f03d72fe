/** Counts and prints the calls whose answer is not the one that is due. */
final class Check {
    /** A call of the face; a boolean answer counts 1 or 0. */
    interface Call {
        long answer();
    }

    static final String INDEX = "IndexOutOfBoundsException";
    static final String ARGUMENT = "IllegalArgumentException";
    static final String STATE = "IllegalStateException";

    private int calls = 0;
    private int wrong = 0;

    /** The answer as text, or the simple name of what the call throws. */
    static String outcome(Call call) {
        try {
            return Long.toString(call.answer());
        } catch (RuntimeException e) {
            return e.getClass().getSimpleName();
        }
    }

    void due(String what, long want, Call call) {
        compare(what, Long.toString(want), outcome(call));
    }

    void due(String what, boolean want, boolean got) {
        compare(what, Boolean.toString(want), Boolean.toString(got));
    }

    void throwing(String what, String want, Call call) {
        compare(what, want, outcome(call));
    }

    void compare(String what, String want, String got) {
        calls++;
        if (!want.equals(got)) {
            wrong++;
            System.out.println(what + " answered " + got + ", due is " + want);
        }
    }

    void end() {
        System.out.println(calls + " answers looked at, " + wrong + " wrong");
        if (wrong != 0) {
            System.exit(1);
        }
    }
}
