/** Counts and prints the answers that are not the ones that are due. */
final class Check {
    private int wrong = 0;
    private int made = 0;
    private String topic = "";

    void about(String topic) {
        this.topic = topic;
    }

    void due(String call, long got, long want) {
        made++;
        if (got != want) {
            wrong++;
            System.out.println(topic + ": " + call + " answered " + got + ", due is " + want);
        }
    }

    void holds(String what, boolean yes) {
        made++;
        if (!yes) {
            wrong++;
            System.out.println(topic + ": " + what + " does not hold");
        }
    }

    int wrong() {
        return wrong;
    }

    /** Ends the test with exit code 1 if an answer was not due, or if nothing was checked. */
    void end() {
        System.out.println(made + " checks, " + wrong + " not as due");
        if (wrong != 0 || made == 0) {
            System.exit(1);
        }
    }
}
