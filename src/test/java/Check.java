/** Counts what tests find; each test program ends with close(). */
final class Check {
    interface Call {
        void run();
    }

    private static int passed = 0;
    private static int failed = 0;

    private Check() {
    }

    static void is(String what, long got, long want) {
        note(got == want, what, "answered " + got + ", due is " + want);
    }

    static void is(String what, boolean got, boolean want) {
        note(got == want, what, "answered " + got + ", due is " + want);
    }

    static void is(String what, double got, double want) {
        note(Double.compare(got, want) == 0, what, "answered " + got + ", due is " + want);
    }

    static void is(String what, String got, String want) {
        note(got.equals(want), what, "answered " + got + ", due is " + want);
    }

    static void refuses(String what, Class<? extends RuntimeException> want, Call call) {
        String got = "nothing";
        try {
            call.run();
        } catch (RuntimeException e) {
            got = nameOf(e);
        }
        note(got.equals(want.getName()), what, "threw " + got + ", due is " + want.getName());
    }

    /** An exception that was not thrown in one of the trails themselves is told as such: it is never due. */
    static String nameOf(RuntimeException e) {
        StackTraceElement[] frames = e.getStackTrace();
        String thrower = frames.length == 0 ? "" : frames[0].getClassName();
        boolean isOwn = thrower.startsWith("Exlibristrail") || thrower.startsWith("PlainTrail");
        return e.getClass().getName() + (isOwn ? "" : " of the library");
    }

    static void close() {
        System.out.println(passed + " passed, " + failed + " failed");
        if (failed != 0) {
            System.exit(1);
        }
    }

    private static void note(boolean isRight, String what, String why) {
        if (isRight) {
            passed++;
        } else {
            failed++;
            if (failed <= 50) {
                System.out.println(what + ": " + why);
            }
        }
    }
}
