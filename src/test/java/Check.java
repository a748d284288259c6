/** Counts the calls whose answer is not the one that is due, and ends a test by them. */
final class Check {
    interface Call {
        long answer();
    }

    private final String name;
    private int calls = 0;
    private int wrong = 0;

    Check(String name) {
        this.name = name;
    }

    void due(String call, long want, Call made) {
        calls++;
        try {
            long got = made.answer();
            if (got != want) {
                tell(call + " answered " + got + ", due is " + want);
            }
        } catch (RuntimeException e) {
            tell(call + " threw " + e + ", due is " + want);
        }
    }

    void refused(String call, Class<? extends RuntimeException> want, Call made) {
        calls++;
        try {
            tell(call + " answered " + made.answer() + ", due is " + want.getName());
        } catch (RuntimeException e) {
            if (e.getClass() != want || !ownThrow(e)) {
                tell(call + " threw " + e + ", due is " + want.getName() + " by a throw of the class");
            }
        }
    }

    /** Whether the class threw it, and not the library that it calls. */
    static boolean ownThrow(RuntimeException e) {
        StackTraceElement[] trace = e.getStackTrace();
        return trace.length > 0 && trace[0].getClassName().startsWith("PrintQueue");
    }

    void holds(String what, boolean held) {
        calls++;
        if (!held) {
            tell(what);
        }
    }

    private void tell(String what) {
        wrong++;
        System.out.println(name + ": " + what);
    }

    /** A test without a single call would pass for nothing, so it fails. */
    void end() {
        if (wrong != 0 || calls == 0) {
            System.out.println(name + ": " + wrong + " of " + calls + " answers are not as due");
            System.exit(1);
        }
    }
}
