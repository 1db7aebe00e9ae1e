/** Calls on an object; those on a new one lead to a state. */
interface Calls {
    /** A call that answers a number; a boolean counts 1 or 0. */
    interface Question {
        long of(Designer x);
    }

    /** A call with a number among its arguments. */
    interface Numbered {
        long of(Designer x, int number);
    }

    void on(Designer x);

    default Calls then(Calls next) {
        return x -> {
            on(x);
            next.on(x);
        };
    }

    /** Makes a call and goes on if it throws. */
    default Calls thenTry(Question call) {
        return then(x -> outcome(x, call));
    }

    default Designer made() {
        Designer x = new Designer();
        on(x);
        return x;
    }

    /** What a call answers, or the class of what it throws. */
    static String outcome(Designer x, Question call) {
        try {
            return Long.toString(call.of(x));
        } catch (RuntimeException e) {
            return e.getClass().getName();
        }
    }
}
