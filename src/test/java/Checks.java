/** Counts tests and what they find wrong. */
final class Checks {
    private static final int MOST_FAULTS = 500;

    private String test = "";
    private int tests = 0;
    private int wrong = 0;

    void begin(String name) {
        test = name;
        tests++;
    }

    void isDue(String what, Object want, Object got) {
        if (!want.equals(got)) {
            fault(what + " answered " + got + ", due is " + want);
        }
    }

    void fault(String text) {
        wrong++;
        System.out.println(test + ": " + text);
        if (wrong >= MOST_FAULTS) {
            end();
        }
    }

    int wrong() {
        return wrong;
    }

    /** Ends the program with exit code 1 if something was wrong. */
    void end() {
        System.out.println(tests + " tests, " + wrong + " faults");
        if (wrong != 0) {
            System.exit(1);
        }
    }
}
