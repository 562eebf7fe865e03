/** Compares answers with what is due, prints every wrong one and counts them. Ends a test that does not end by itself. */
final class Check {
    private static final int MOST_SECONDS = 120;
    private static int wrong = 0;

    static {
        Thread watch = new Thread(Check::endLateTest);
        watch.setDaemon(true);
        watch.start();
    }

    private Check() {
    }

    /** A call that may throw. */
    interface Call {
        Object make();
    }

    static void equal(Object due, Object got, String what) {
        if (!due.equals(got)) {
            wrong(what + ": due is " + due + ", answered " + got);
        }
    }

    static void raises(Class<? extends RuntimeException> due, Call call, String what) {
        equal(due.getSimpleName(), nameOfException(call), what);
    }

    /** The answer of a call as a text, or the name of the exception that it throws. */
    static String answer(Call call) {
        try {
            return String.valueOf(call.make());
        } catch (RuntimeException e) {
            return e.getClass().getSimpleName();
        }
    }

    private static String nameOfException(Call call) {
        try {
            return "no exception but " + call.make();
        } catch (RuntimeException e) {
            return e.getClass().getSimpleName();
        }
    }

    static void wrong(String message) {
        wrong++;
        System.out.println(message);
    }

    private static void endLateTest() {
        try {
            Thread.sleep(1000L * MOST_SECONDS);
        } catch (InterruptedException e) {
            return;
        }
        System.out.println("not ended after " + MOST_SECONDS + " seconds: a call does not end");
        Runtime.getRuntime().halt(1);
    }

    static void end() {
        System.out.println(wrong == 0 ? "all answers are as due" : wrong + " answers are not as due");
        if (wrong > 0) {
            System.exit(1);
        }
    }
}
