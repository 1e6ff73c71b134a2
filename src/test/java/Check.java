/** What the tests share: comparing answers and expecting exceptions. */
final class Check {
    static final Class<?> INDEX = IndexOutOfBoundsException.class;
    static final Class<?> ARGUMENT = IllegalArgumentException.class;
    static final Class<?> STATE = IllegalStateException.class;
    /** Arguments that are far out of every range. */
    static final int FAR = Integer.MAX_VALUE;
    static final int DEEP = Integer.MIN_VALUE;

    private String test = "";
    private int wrong = 0;

    interface Call {
        void run();
    }

    /** What is reported from now on belongs to this test. */
    void begin(String name) {
        test = name + ": ";
    }

    void is(String what, long got, long want) {
        if (got != want) {
            report(what + " answered " + got + ", due is " + want);
        }
    }

    void is(String what, double got, double want) {
        if (Double.compare(got, want) != 0) {
            report(what + " answered " + got + ", due is " + want);
        }
    }

    void is(String what, String got, String want) {
        if (!got.equals(want)) {
            report(what + " answered " + got + ", due is " + want);
        }
    }

    void isNot(String what, long got, long notDue) {
        if (got == notDue) {
            report(what + " answered " + got + ", due is another");
        }
    }

    /** The call throws just this. */
    void refuses(String what, Class<?> due, Call call) {
        Class<?> thrown = null;
        try {
            call.run();
        } catch (RuntimeException e) {
            thrown = e.getClass();
        }
        if (thrown != due) {
            report(what + " threw " + thrown + ", due is " + due);
        }
    }

    /** The call throws just this, and leaves everything as it was. */
    void fails(String what, Mail mail, Class<?> due, Call call) {
        long before = mail.digest();
        refuses(what, due, call);
        if (mail.digest() != before) {
            report(what + " threw, but changed something");
        }
    }

    void index(String what, Mail mail, Call call) {
        fails(what, mail, INDEX, call);
    }

    void argument(String what, Mail mail, Call call) {
        fails(what, mail, ARGUMENT, call);
    }

    void state(String what, Mail mail, Call call) {
        fails(what, mail, STATE, call);
    }

    void report(String line) {
        wrong++;
        System.out.println(test + line);
    }

    void end() {
        System.out.println(wrong == 0 ? "all answers are as due" : wrong + " answers are not as due");
        if (wrong != 0) {
            System.exit(1);
        }
    }
}
