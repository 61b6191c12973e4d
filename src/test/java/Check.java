import java.util.Set;

/** What the tests of the project share: they count and print every answer that is not due. */
final class Check {
    interface Call {
        long answer();
    }

    static final String PLACE = "throws.IndexOutOfBoundsException";
    static final String STATE = "throws.IllegalStateException";
    static final String ARGUMENT = "throws.IllegalArgumentException";

    private static final Set<String> OWN = Set.of("ColourParts", "PlainModel");

    private static int checked = 0;
    private static int wrong = 0;
    private static String test = "";

    private Check() {
    }

    /** From here on each wrong answer is told with this test's name. */
    static void begin(String name) {
        test = name + ": ";
    }

    static long flag(boolean b) {
        return b ? 1 : 0;
    }

    static void same(String what, long got, long due) {
        checked++;
        if (got != due) {
            wrong(what, Long.toString(got), Long.toString(due));
        }
    }

    static void same(String what, boolean got, boolean due) {
        same(what, flag(got), flag(due));
    }

    static void sameText(String what, String got, String due) {
        checked++;
        if (!got.equals(due)) {
            wrong(what, got, due);
        }
    }

    private static void wrong(String what, String got, String due) {
        wrong++;
        System.out.println(test + what + " answered " + got + ", due is " + due);
    }

    /**
     * What a call answers, or the name of what it throws, whatever that is. Only the class itself
     * may throw: what a list of the library throws at a wrong index bears the right name, too.
     */
    static String outcome(Call call) {
        try {
            return Long.toString(call.answer());
        } catch (Throwable e) {
            return (isOwn(e) ? "throws." : "by itself throws.") + e.getClass().getSimpleName();
        }
    }

    private static boolean isOwn(Throwable e) {
        StackTraceElement[] trace = e.getStackTrace();
        return trace.length > 0 && OWN.contains(trace[0].getClassName());
    }

    static void place(String what, Call call) {
        sameText(what, outcome(call), PLACE);
    }

    static void state(String what, Call call) {
        sameText(what, outcome(call), STATE);
    }

    static void argument(String what, Call call) {
        sameText(what, outcome(call), ARGUMENT);
    }

    static int wrongOnes() {
        return wrong;
    }

    static void end() {
        System.out.println(checked + " answers checked, " + wrong + " wrong");
        if (wrong != 0) {
            System.exit(1);
        }
    }
}
