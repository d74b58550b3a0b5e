import java.util.function.LongSupplier;

/** Collects the answers that are not the ones due; shared by the tests of the project. */
final class Checks {
    static final String STATE = "IllegalStateException";
    static final String INDEX = "IndexOutOfBoundsException";
    static final String ARGUMENT = "IllegalArgumentException";

    private String about = "";
    private int sentences = 0;
    private int made = 0;
    private int wrong = 0;

    /**
     * A sentence of the document, the number of the promise that it belongs to, and its own test.
     * One that ends by an exception, or that checks nothing, fails; the others are run all the same.
     */
    void sentence(int promise, String words, Runnable test) {
        about = "promise " + promise + ", \"" + words + "\": ";
        sentences++;
        int before = made;
        try {
            test.run();
        } catch (RuntimeException thrown) {
            due("its test", "ended by " + thrown, "an end without an exception");
        }
        if (made == before) {
            due("its test", "checked nothing", "a check");
        }
        about = "";
    }

    void due(String what, long got, long want) {
        due(what, Long.toString(got), Long.toString(want));
    }

    void due(String what, boolean got, boolean want) {
        due(what, Boolean.toString(got), Boolean.toString(want));
    }

    void due(String what, String got, String want) {
        made++;
        if (!got.equals(want)) {
            wrong++;
            System.out.println(about + what + " answered " + got + ", due is " + want);
        }
    }

    void dueThrow(String what, String exception, LongSupplier call) {
        due(what, answerOf(call), "throws." + exception);
    }

    // The class's own name: ArrayIndexOutOfBoundsException, which the machine throws, is a fault
    // though it is an IndexOutOfBoundsException too.
    static String answerOf(LongSupplier call) {
        try {
            return Long.toString(call.getAsLong());
        } catch (RuntimeException thrown) {
            return "throws." + thrown.getClass().getSimpleName();
        }
    }

    static long asLong(boolean answer) {
        return answer ? 1 : 0;
    }

    void end(String test) {
        String ofSentences = sentences == 0 ? "" : sentences + " sentences, ";
        System.out.println(test + ": " + ofSentences + made + " checks, " + wrong + " wrong");
        if (wrong != 0 || made == 0) {
            System.exit(1);
        }
    }
}
