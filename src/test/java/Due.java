/** Counts the calls of one test whose answer is not the one that is due, and tells them. */
final class Due {
    interface Call {
        long answer();
    }

    interface Act {
        void happen();
    }

    interface ActOn {
        void happen(int value);
    }

    static final Class<IllegalArgumentException> ARGUMENT = IllegalArgumentException.class;
    static final Class<IndexOutOfBoundsException> INDEX = IndexOutOfBoundsException.class;
    static final Class<IllegalStateException> STATE = IllegalStateException.class;

    private final String test;
    private String about = "";
    private int place = 0;
    private int calls = 0;
    private int wrong = 0;

    Due(String test) {
        this.test = test;
    }

    /** What the calls to come are about; a wrong one is told by it and by its place behind it. */
    void about(String what) {
        about = what;
        place = 0;
    }

    void is(long want, Call call) {
        String got;
        try {
            got = String.valueOf(call.answer());
        } catch (RuntimeException e) {
            got = e.getClass().getName();
        }
        compare(String.valueOf(want), got);
    }

    void isTrue(boolean got) {
        compare("true", String.valueOf(got));
    }

    void isFalse(boolean got) {
        compare("false", String.valueOf(got));
    }

    void fails(Class<? extends RuntimeException> want, Act act) {
        String got = "nothing";
        try {
            act.happen();
        } catch (RuntimeException e) {
            got = e.getClass().getName();
        }
        compare(want.getName(), got);
    }

    /** Refused beside each end of a range, and as far off from it as can be. */
    void outside(Class<? extends RuntimeException> want, int first, int last, ActOn act) {
        for (int value : new int[] {Integer.MIN_VALUE, first - 1, last + 1, Integer.MAX_VALUE}) {
            fails(want, () -> act.happen(value));
        }
    }

    private void compare(String want, String got) {
        calls++;
        place++;
        if (!want.equals(got)) {
            wrong++;
            System.out.println(test + ", " + about + ", line " + place + ": " + got + ", due is " + want);
        }
    }

    void end() {
        System.out.println(test + ": " + calls + " calls, " + wrong + " not as due");
        if (wrong != 0) {
            System.exit(1);
        }
    }
}
