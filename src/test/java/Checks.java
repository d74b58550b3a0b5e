import java.util.function.LongSupplier;

/** Collects the answers that are not the ones due; shared by the tests of the project. */
final class Checks {
    static final String STATE = "IllegalStateException";
    static final String INDEX = "IndexOutOfBoundsException";
    static final String ARGUMENT = "IllegalArgumentException";

    private int made = 0;
    private int wrong = 0;

    void due(String what, long got, long want) {
        due(what, Long.toString(got), Long.toString(want));
    }

    void due(String what, boolean got, boolean want) {
        due(what, Boolean.toString(got), Boolean.toString(want));
    }

    void due(String what, String got, String want) {
        made++;
        if (!got.equals(want)) {
            wrong++;
            System.out.println(what + " answered " + got + ", due is " + want);
        }
    }

    void dueThrow(String what, String exception, LongSupplier call) {
        due(what, answerOf(call), "throws." + exception);
    }

    // The class's own name: ArrayIndexOutOfBoundsException, which the machine throws, is a fault
    // though it is an IndexOutOfBoundsException too.
    static String answerOf(LongSupplier call) {
        try {
            return Long.toString(call.getAsLong());
        } catch (RuntimeException thrown) {
            return "throws." + thrown.getClass().getSimpleName();
        }
    }

    static long asLong(boolean answer) {
        return answer ? 1 : 0;
    }

    void end(String test) {
        System.out.println(test + ": " + made + " checks, " + wrong + " wrong");
        if (wrong != 0 || made == 0) {
            System.exit(1);
        }
    }
}
