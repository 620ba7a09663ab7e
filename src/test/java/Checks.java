/** Counts and prints the answers that are not as due. */
final class Checks {
    /** A call of the class under test. */
    interface Call {
        long answer();
    }

    private static final int MOST_SHOWN = 5;

    private String sentence = "";
    private int shown = 0;
    private int made = 0;
    private int wrong = 0;

    /** Runs the test of a sentence of the document; what it throws is a fault of this sentence alone. */
    void about(String words, Runnable test) {
        sentence = words;
        shown = 0;
        int madeBefore = made;
        try {
            test.run();
        } catch (RuntimeException e) {
            fault("threw " + e + " at " + e.getStackTrace()[0]);
        }
        if (made == madeBefore) {
            fault("nothing was looked at");
        }
    }

    void due(String call, long got, long want) {
        made++;
        if (got != want) {
            fault(call + " answered " + got + ", due is " + want);
        }
    }

    void due(String call, boolean got, boolean want) {
        due(call, got ? 1 : 0, want ? 1 : 0);
    }

    /** The call must throw IllegalArgumentException itself, not a class below it. */
    void refused(String text, Call call) {
        made++;
        try {
            fault(text + " answered " + call.answer() + ", due is an IllegalArgumentException");
        } catch (RuntimeException e) {
            if (e.getClass() != IllegalArgumentException.class) {
                fault(text + " threw " + e + ", due is an IllegalArgumentException");
            }
        }
    }

    void fault(String text) {
        wrong++;
        shown++;
        if (shown <= MOST_SHOWN) {
            System.out.println(sentence.isEmpty() ? text : "[" + sentence + "] " + text);
        }
    }

    void finish() {
        System.out.println(made + " answers looked at, " + wrong + " wrong");
        if (wrong != 0 || made == 0) {
            System.exit(1);
        }
    }
}
