/** Counts what is not as due, prints it, and ends a test. */
final class Check {
    private static final int MOST_PRINTED = 40;

    private final String name;
    private int asked;
    private int wrong;

    Check(String name) {
        this.name = name;
    }

    /** A call whose answer, or whose exception, is looked at. */
    interface Call {
        long answer();
    }

    void is(String what, long got, long due) {
        isTrue(what + " answered " + got + ", due is " + due, got == due);
    }

    void answers(String what, Call call, long due) {
        String got = outcome(call);
        isTrue(what + " answered " + got + ", due is " + due, got.equals(Long.toString(due)));
    }

    void refuses(String what, Call call, Class<? extends RuntimeException> due) {
        String got = outcome(call);
        isTrue(what + " answered " + got + ", due is " + due.getSimpleName(), got.equals(due.getSimpleName()));
    }

    void isTrue(String what, boolean holds) {
        asked++;
        if (!holds) {
            wrong++;
            if (wrong <= MOST_PRINTED) {
                System.out.println(name + ": " + what);
            }
        }
    }

    boolean failed() {
        return wrong != 0;
    }

    void end() {
        System.out.println(name + ": " + asked + " looked at, " + wrong + " not as due");
        if (wrong != 0) {
            System.exit(1);
        }
    }

    static String outcome(Call call) {
        try {
            return Long.toString(call.answer());
        } catch (RuntimeException e) {
            return e.getClass().getSimpleName();
        }
    }
}
