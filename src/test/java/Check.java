/** Counts answers that are as due and prints those that are not. */
final class Check {
    interface Call {
        void make();
    }

    private static int passed = 0;
    private static int failed = 0;

    private Check() {
    }

    static void same(String what, long got, long due) {
        count(got == due, what + " answered " + got + ", due is " + due);
    }

    static void yes(String what, boolean got) {
        count(got, what + " does not hold");
    }

    static void wrongArgument(String what, Call call) {
        throwing(what, IllegalArgumentException.class, call);
    }

    static void wrongState(String what, Call call) {
        throwing(what, IllegalStateException.class, call);
    }

    static void noSuch(String what, Call call) {
        throwing(what, IndexOutOfBoundsException.class, call);
    }

    static void throwing(String what, Class<?> due, Call call) {
        Class<?> got = null;
        try {
            call.make();
        } catch (RuntimeException e) {
            got = e.getClass();
            yes(what + ": the class throws it itself", isOwnThrow(e));
        }
        count(got == due, what + " threw " + got + ", due is " + due);
    }

    /** Tells whether a throw statement of the class threw, not the machine or the library below it. */
    static boolean isOwnThrow(RuntimeException e) {
        StackTraceElement[] trace = e.getStackTrace();
        return trace.length > 0 && trace[0].getClassName().startsWith("UnitContracts");
    }

    private static void count(boolean good, String text) {
        if (good) {
            passed++;
        } else {
            failed++;
            System.out.println(text);
        }
    }

    /** To be called last: tells the counts, and ends with exit code 1 if an answer was wrong. */
    static void end() {
        System.out.println("answers as due: " + passed + ", not as due: " + failed);
        if (failed != 0 || passed == 0) {
            System.exit(1);
        }
    }
}
