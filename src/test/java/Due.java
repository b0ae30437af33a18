/** What the tests share: answers that are due, exceptions that are due, and the end of a test. */
final class Due {
    private static int wrong = 0;
    private static int asked = 0;

    interface Call {
        Object answer();
    }

    interface Act {
        void run();
    }

    private Due() {
    }

    /** A whole number is due. */
    static void is(long want, Call call) {
        check(Long.toString(want), call);
    }

    static void yes(Call call) {
        check("true", call);
    }

    static void no(Call call) {
        check("false", call);
    }

    private static void check(String want, Call call) {
        String got;
        try {
            got = String.valueOf(call.answer());
        } catch (RuntimeException e) {
            got = "throws " + e.getClass().getName();
        }
        compare(want, got);
    }

    static void index(Act act) {
        fails(IndexOutOfBoundsException.class, act);
    }

    static void element(Act act) {
        fails(java.util.NoSuchElementException.class, act);
    }

    static void argument(Act act) {
        fails(IllegalArgumentException.class, act);
    }

    static void state(Act act) {
        fails(IllegalStateException.class, act);
    }

    /** An exception of just this class is due. */
    private static void fails(Class<?> want, Act act) {
        String got = "no exception";
        try {
            act.run();
        } catch (RuntimeException e) {
            got = e.getClass().getName();
        }
        compare(want.getName(), got);
    }

    static void compare(String want, String got) {
        asked++;
        if (!want.equals(got)) {
            wrong++;
            StackTraceElement at = null;
            for (StackTraceElement e : new Throwable().getStackTrace()) {
                if (at == null && !e.getClassName().equals("Due")) {
                    at = e;
                }
            }
            System.out.println(at + ": answered " + got + ", due is " + want);
        }
    }

    /** Ends the test: with exit code 1 if an answer was not as due. */
    static void end() {
        System.out.println(asked + " answers, " + wrong + " not as due");
        if (wrong != 0 || asked == 0) {
            System.exit(1);
        }
    }
}
