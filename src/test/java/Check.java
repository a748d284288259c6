import java.util.TreeSet;

/** Counts the calls whose answer is not the one that is due, and ends a test by them. */
final class Check {
    interface Call {
        long answer();
    }

    interface OfInt {
        long answer(int number);
    }

    private final String name;
    private String sentence = "";
    private int calls = 0;
    private int wrong = 0;

    Check(String name) {
        this.name = name;
    }

    /** The document's words that the next calls test: they are told with each wrong answer. */
    void sentence(String words) {
        sentence = words;
    }

    void due(String call, long want, Call made) {
        calls++;
        try {
            long got = made.answer();
            if (got != want) {
                tell(call + " answered " + got + ", due is " + want);
            }
        } catch (RuntimeException e) {
            tell(call + " threw " + e + ", due is " + want);
        }
    }

    void refused(String call, Class<? extends RuntimeException> want, Call made) {
        calls++;
        try {
            tell(call + " answered " + made.answer() + ", due is " + want.getName());
        } catch (RuntimeException e) {
            if (e.getClass() != want || !ownThrow(e)) {
                tell(call + " threw " + e + ", due is " + want.getName() + " by a throw of the class");
            }
        }
    }

    /**
     * The numbers next to a range, those that a byte or a short would wrap into it, and the least and the
     * greatest int are refused. The call is told with the number where it has a question mark.
     */
    void refusedOutside(String call, int least, int most, Class<? extends RuntimeException> want, OfInt made) {
        for (int number : outside(least, most)) {
            refused(call.replace("?", Integer.toString(number)), want, () -> made.answer(number));
        }
    }

    static TreeSet<Integer> outside(int least, int most) {
        TreeSet<Integer> numbers = new TreeSet<>();
        long[] all = {
            Integer.MIN_VALUE, Integer.MIN_VALUE + 1L, Integer.MIN_VALUE + (long) most, least - 65536L,
            least - 256L, -1L - most, -most, least - 2L, least - 1L, most + 1L, most + 2L, least + 256L,
            most + 256L, least + 65536L, most + 65536L, Integer.MAX_VALUE - 1L, Integer.MAX_VALUE
        };
        for (long number : all) {
            if ((number < least || number > most) && number == (int) number) {
                numbers.add((int) number);
            }
        }
        return numbers;
    }

    /** Whether the class threw it, and not the library that it calls. */
    static boolean ownThrow(Throwable e) {
        StackTraceElement[] trace = e.getStackTrace();
        return trace.length > 0 && trace[0].getClassName().startsWith("PrintQueue");
    }

    void holds(String what, boolean held) {
        calls++;
        if (!held) {
            tell(what);
        }
    }

    private void tell(String what) {
        wrong++;
        System.out.println(name + ": " + (sentence.isEmpty() ? "" : "'" + sentence + "': ") + what);
    }

    /** A test without a single call would pass for nothing, so it fails. */
    void end() {
        if (wrong != 0 || calls == 0) {
            System.out.println(name + ": " + wrong + " of " + calls + " answers are not as due");
            System.exit(1);
        }
    }
}
