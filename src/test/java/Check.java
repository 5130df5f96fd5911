/** Counts what is not as it is due, tells it, and ends the test with 1 if there was any. */
final class Check {
    private static final long MOST_MILLISECONDS = 300_000;

    private final String test;
    private int many;
    private int wrong;

    Check(String test) {
        this.test = test;
        Thread watch = new Thread(this::endLate);
        watch.setDaemon(true);
        watch.start();
    }

    /** A call that does not end is a fault, too, and must not hold up .ci/run. */
    private void endLate() {
        try {
            Thread.sleep(MOST_MILLISECONDS);
            System.out.println(test + ": it does not end");
        } catch (InterruptedException e) {
            System.out.println(test + ": " + e);
        }
        Runtime.getRuntime().halt(1);
    }

    void is(String call, long got, long due) {
        many++;
        if (got != due) {
            tell(call + " answered " + got + ", due is " + due);
        }
    }

    void is(String call, boolean got, boolean due) {
        is(call, got ? 1 : 0, due ? 1 : 0);
    }

    void is(String call, String got, String due) {
        many++;
        if (!got.equals(due)) {
            tell(call + " answered " + got + ", due is " + due);
        }
    }

    void refuses(String call, Class<?> due, Runnable run) {
        many++;
        try {
            run.run();
            tell(call + " threw nothing, due is " + due.getSimpleName());
        } catch (RuntimeException e) {
            if (e.getClass() != due || !isThrownByProgram(e)) {
                tell(call + " threw " + e + ", due is " + due.getSimpleName() + ", thrown by the program itself");
            }
        }
    }

    /** An exception of the machine or of the library begins in another class, or has no written text. */
    static boolean isThrownByProgram(RuntimeException e) {
        StackTraceElement[] trace = e.getStackTrace();
        return trace.length > 0 && trace[0].getClassName().startsWith("BlobHarbor")
                && (e.getClass() == IndexOutOfBoundsException.class || e.getClass() == IllegalArgumentException.class
                || e.getClass() == IllegalStateException.class);
    }

    void tell(String what) {
        wrong++;
        if (wrong <= 40) {
            System.out.println(test + ": " + what);
        }
    }

    int many() {
        return many;
    }

    void end() {
        System.out.println(test + ": " + many + " looked at, " + wrong + " wrong");
        if (wrong != 0 || many == 0) {
            System.exit(1);
        }
    }
}
