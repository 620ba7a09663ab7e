/** Counts and prints the answers that are not as due. */
final class Checks {
    /** A call of the class under test. */
    interface Call {
        long answer();
    }

    private int made = 0;
    private int wrong = 0;

    void due(String call, long got, long want) {
        made++;
        if (got != want) {
            fault(call + " answered " + got + ", due is " + want);
        }
    }

    void due(String call, boolean got, boolean want) {
        due(call, got ? 1 : 0, want ? 1 : 0);
    }

    /** The call must throw IllegalArgumentException itself, not a class below it. */
    void refused(String text, Call call) {
        made++;
        try {
            fault(text + " answered " + call.answer() + ", due is an IllegalArgumentException");
        } catch (RuntimeException e) {
            if (e.getClass() != IllegalArgumentException.class) {
                fault(text + " threw " + e + ", due is an IllegalArgumentException");
            }
        }
    }

    void fault(String text) {
        wrong++;
        if (wrong <= 20) {
            System.out.println(text);
        }
    }

    void finish() {
        System.out.println(made + " answers looked at, " + wrong + " wrong");
        if (wrong != 0 || made == 0) {
            System.exit(1);
        }
    }
}
