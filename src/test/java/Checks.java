/** Counts the calls of one test whose answer is not the one that is due. */
final class Checks {
    static final Class<?> INDEX = IndexOutOfBoundsException.class;
    static final Class<?> ARGUMENT = IllegalArgumentException.class;
    static final Class<?> STATE = IllegalStateException.class;

    interface Call {
        void run();
    }

    private final String test;
    private int wrong = 0;

    Checks(String test) {
        this.test = test;
    }

    void same(String what, long got, long due) {
        if (got != due) {
            fail(what + " answered " + got + ", due is " + due);
        }
    }

    /** The class itself is asked for: what the machine throws is of a class below it. */
    void refuses(String what, Class<?> due, Call call) {
        Class<?> got = null;
        try {
            call.run();
        } catch (RuntimeException e) {
            got = e.getClass();
        }
        if (got != due) {
            fail(what + " threw " + got + ", due is " + due);
        }
    }

    void fail(String what) {
        wrong++;
        System.out.println(test + ": " + what);
    }

    void end() {
        if (wrong > 0) {
            System.out.println(test + ": " + wrong + " answers are not as due");
            System.exit(1);
        }
    }
}
