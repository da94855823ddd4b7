/** Counts and prints the answers that are not the ones that are due. */
final class Check {
    private static final int MOST_PRINTED = 60;

    private int wrong = 0;
    private int made = 0;
    private String topic = "";

    void about(String topic) {
        this.topic = topic;
    }

    void due(String call, long got, long want) {
        made++;
        if (got != want) {
            tellWrong(call + " answered " + got + ", due is " + want);
        }
    }

    void holds(String what, boolean yes) {
        made++;
        if (!yes) {
            tellWrong(what + " does not hold");
        }
    }

    private void tellWrong(String what) {
        wrong++;
        if (wrong <= MOST_PRINTED) {
            System.out.println(topic + ": " + what);
        }
    }

    int wrong() {
        return wrong;
    }

    /** Ends the test with exit code 1 if an answer was not due, or if nothing was checked. */
    void end() {
        System.out.println(made + " checks, " + wrong + " not as due");
        if (wrong != 0 || made == 0) {
            System.exit(1);
        }
    }
}
