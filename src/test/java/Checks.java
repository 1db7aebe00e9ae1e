/** What the tests share: calls with the answer or the exception that is due. */
final class Checks {
    /** A call that answers a whole number; a boolean counts 1 or 0. */
    interface Call {
        long answer();
    }

    /** A call without an answer. */
    interface Order {
        void give();
    }

    private int wrong = 0;
    private int calls = 0;

    void due(String what, long want, Call call) {
        calls++;
        try {
            long got = call.answer();
            if (got != want) {
                fault(what + " answered " + got + ", due is " + want);
            }
        } catch (RuntimeException e) {
            fault(what + " threw " + e + ", due is " + want);
        }
    }

    void isDue(String what, boolean want, boolean got) {
        calls++;
        if (got != want) {
            fault(what + " answered " + got + ", due is " + want);
        }
    }

    /** The exception has to be of this very class, so that none of the machine's own passes for it. */
    void fails(String what, Class<? extends RuntimeException> want, Order order) {
        calls++;
        try {
            order.give();
            fault(what + " threw nothing, due is " + want.getSimpleName());
        } catch (RuntimeException e) {
            if (e.getClass() != want) {
                fault(what + " threw " + e + ", due is " + want.getSimpleName());
            }
        }
    }

    void fault(String text) {
        wrong++;
        System.out.println(text);
    }

    /** Ends the test with exit code 1 if an answer was wrong. */
    void end() {
        System.out.println(calls + " calls, " + wrong + " wrong");
        if (wrong != 0) {
            System.exit(1);
        }
    }
}
