/** Counts the answers that are not due, and ends a test with exit code 1 if there was one. */
final class Check {
    interface Call {
        long answer();
    }

    private final String name;
    private String sentence = "";
    private int asked = 0;
    private int wrong = 0;

    Check(String name) {
        this.name = name;
    }

    /** Runs the test of one sentence of the document; what it throws itself is not as due. */
    void sentence(String words, Runnable test) {
        sentence = "\"" + words + "\": ";
        try {
            test.run();
        } catch (RuntimeException | Error thrown) {
            due("the test itself", "throws." + thrown.getClass().getSimpleName(), "no throw");
        }
        sentence = "";
    }

    void due(String what, long got, long want) {
        due(what, Long.toString(got), Long.toString(want));
    }

    void due(String what, boolean got, boolean want) {
        due(what, Boolean.toString(got), Boolean.toString(want));
    }

    void due(String what, String got, String want) {
        asked++;
        if (!got.equals(want)) {
            wrong++;
            System.out.println(name + ": " + sentence + what + " answered " + got + ", due is " + want);
        }
    }

    /** The class must be the very one: what the machine throws is of a class below it. */
    void throwsIndex(String what, Call call) {
        due(what, outcome(call), "throws.IndexOutOfBoundsException");
    }

    void throwsArgument(String what, Call call) {
        due(what, outcome(call), "throws.IllegalArgumentException");
    }

    void throwsState(String what, Call call) {
        due(what, outcome(call), "throws.IllegalStateException");
    }

    static String outcome(Call call) {
        try {
            return Long.toString(call.answer());
        } catch (Throwable thrown) {
            return "throws." + thrown.getClass().getSimpleName();
        }
    }

    int wrong() {
        return wrong;
    }

    void end() {
        System.out.println(name + ": " + asked + " answers, " + wrong + " not as due");
        if (wrong != 0) {
            System.exit(1);
        }
    }
}
