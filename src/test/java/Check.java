/** Counts the answers that are not as due, and tells each one. */
final class Check {
    interface Call {
        Object answer();
    }

    static final String INDEX = "throws.IndexOutOfBoundsException";
    static final String ARGUMENT = "throws.IllegalArgumentException";
    static final String STATE = "throws.IllegalStateException";

    private static int checked = 0;
    private static int wrong = 0;

    private Check() {
    }

    static int checked() {
        return checked;
    }

    static int wrong() {
        return wrong;
    }

    static void due(String what, Object got, Object want) {
        checked++;
        if (!want.equals(got)) {
            wrong++;
            System.out.println(what + " answered " + got + ", due is " + want);
        }
    }

    /** What a call answers, or the name of the exception that it throws by a throw of its own. */
    static Object outcome(Call call) {
        try {
            return call.answer();
        } catch (RuntimeException e) {
            StackTraceElement[] trace = e.getStackTrace();
            boolean isOwn = trace.length > 0 && trace[0].getClassName().startsWith("Blazonhall");
            return (isOwn ? "throws." : "the machine throws ") + e.getClass().getSimpleName();
        }
    }

    static void index(String what, Call call) {
        due(what, outcome(call), INDEX);
    }

    static void argument(String what, Call call) {
        due(what, outcome(call), ARGUMENT);
    }

    static void state(String what, Call call) {
        due(what, outcome(call), STATE);
    }

    /** For a call inside its bounds, whatever it answers. */
    static void answered(String what, Call call) {
        Object got = outcome(call);
        due(what, got instanceof String && ((String) got).contains("throws") ? got : "an answer",
                "an answer");
    }

    static void finish(String test) {
        System.out.println(test + ": " + checked + " answers, " + wrong + " not as due");
        if (wrong != 0) {
            System.exit(1);
        }
    }
}
