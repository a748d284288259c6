import java.util.Random;

/**
 * Long runs of calls on the class and on the model: the answers are the same, and so is what can be asked
 * for behind every call (one that throws changes nothing), or behind every eighth what the model is slow
 * to count. The seeds are fixed.
 */
public final class ModelTest {
    private static final int RUNS = 400;
    private static final int CALLS = 512;
    private static final int METHODS = 14;
    private static final int[] EDGES = {
        Integer.MIN_VALUE, -2, -1, 0, 1, 2, 3, 4, 5, 7, 8, 9, 10, 20, 21, 60, 61, 100, 101, 500, 501,
        50000, 50001, Integer.MAX_VALUE
    };

    private final Random random;
    private final PrintQueue queue = new PrintQueue();
    private final Model model = new Model();
    private final boolean small;
    private long now = 0;

    private ModelTest(long seed) {
        random = new Random(seed);
        small = seed % 2 == 0;
    }

    public static void main(String[] args) {
        Check check = new Check("against the model");
        for (int seed = 0; seed < RUNS; seed++) {
            ModelTest test = new ModelTest(seed);
            int first = test.firstWrongCall();
            check.holds("seed " + seed + " differs at call " + first, first == 0);
        }
        beyondTheCalls(check);
        check.end();
    }

    /** The number of the first call that differs, 0 when none does. */
    private int firstWrongCall() {
        for (int call = 1; call <= CALLS; call++) {
            int which = chosenMethod(call);
            int[] a = {argument(which, 0), argument(which, 1), argument(which, 2), argument(which, 3)};
            long t = time(which);
            String got = answer(() -> ofQueue(queue, which, a, t), true);
            String want = answer(() -> ofModel(model, which, a, t), false);
            if (!got.equals(want) || !sameView(call)) {
                System.out.println("method " + which + " answered " + got + ", due is " + want);
                return call;
            }
        }
        return 0;
    }

    /** First some of each, then mostly what moves parts. */
    private int chosenMethod(int call) {
        if (call < 30) {
            return random.nextInt(3);
        }
        int roll = random.nextInt(100);
        if (roll < 30) {
            return 3;
        }
        if (roll < 55) {
            return 4;
        }
        if (roll < 70) {
            return 5;
        }
        return random.nextInt(METHODS);
    }

    /** Mostly a right argument, or the first that is wrong; at times one from far away. */
    private int argument(int which, int place) {
        if (random.nextInt(40) == 0) {
            return EDGES[random.nextInt(EDGES.length)];
        }
        int most = mostArguments(which)[place];
        return random.nextInt(most + 1);
    }

    private int[] mostArguments(int which) {
        switch (which) {
            case 0: return new int[] {8, 3, 0, 0};
            case 1: return new int[] {8, 3, 4, 0};
            case 2: return new int[] {tickets(), small ? 7 : 40, small ? 5 : 12, small ? 2 : 9};
            case 4: return new int[] {printers(), small ? 12 : 80, 0, 0};
            case 3:
            case 5: return new int[] {printers(), 0, 0, 0};
            case 6: return new int[] {jobs(), 2, 0, 0};
            case 8:
            case 9: return new int[] {jobs(), 5, 0, 0};
            case 10: return new int[] {tickets(), 4, 0, 0};
            case 12: return new int[] {jobs(), printers(), small ? 4 : 8, 0};
            case 13: return new int[] {4, 0, 0, 0};
            default: return new int[] {jobs(), 0, 0, 0};
        }
    }

    private int printers() {
        return model.printers.size();
    }

    private int tickets() {
        return model.tickets.size();
    }

    private int jobs() {
        return model.jobs.size();
    }

    private long time(int which) {
        if (random.nextInt(60) == 0) {
            return random.nextBoolean() ? -1 : now - 1;
        }
        if (which == 3) {
            now += random.nextInt(3);
            return now;
        }
        return Math.max(0, now + random.nextInt(20) - 10);
    }

    private boolean sameView(int call) {
        for (int k = 1; k <= tickets(); k++) {
            for (int what = 0; what < 4; what++) {
                if (queue.account(k, what) != model.account(k, what)) {
                    return told("account(" + k + ", " + what + ")");
                }
            }
        }
        for (int j = 1; j <= jobs(); j++) {
            if (queue.reason(j) != model.reason(j)) {
                return told("reason(" + j + ")");
            }
            if (queue.doubled(j, -1) != model.doubled(j, -1)) {
                return told("doubled(" + j + ", -1)");
            }
            if (call % 8 == 0 && !sameJob(j)) {
                return false;
            }
        }
        return true;
    }

    private boolean sameJob(int j) {
        for (int what = 0; what < 5; what++) {
            if (queue.state(j, what) != model.state(j, what)) {
                return told("state(" + j + ", " + what + ")");
            }
        }
        for (int i = 0; i < model.doubled(j, -1); i++) {
            if (queue.doubled(j, i) != model.doubled(j, i)) {
                return told("doubled(" + j + ", " + i + ")");
            }
        }
        return true;
    }

    private static boolean told(String what) {
        System.out.println("behind the call differs " + what);
        return false;
    }

    private static String answer(Check.Call call, boolean byThrow) {
        try {
            return Long.toString(call.answer());
        } catch (RuntimeException e) {
            String name = e.getClass().getName();
            return !byThrow || Check.ownThrow(e) ? name : name + " from elsewhere";
        }
    }

    private static long ofQueue(PrintQueue q, int which, int[] a, long t) {
        switch (which) {
            case 0: return q.printer(a[0], a[1]);
            case 1: return q.ticket(a[0], a[1], a[2]);
            case 2: return q.job(a[0], a[1], a[2], a[3], t);
            case 3: return q.take(a[0], t);
            case 4: return q.print(a[0], a[1]);
            case 5: return q.fault(a[0]);
            case 6: return q.hold(a[0], a[1] == 0);
            case 7: return q.cancel(a[0]);
            case 8: return q.state(a[0], a[1]);
            case 9: return q.doubled(a[0], a[1] - 1);
            case 10: return q.account(a[0], a[1]);
            case 11: return q.reason(a[0]);
            case 12: return q.split(a[0], a[1], a[2]);
            default: return q.like(a[0]);
        }
    }

    private static long ofModel(Model m, int which, int[] a, long t) {
        switch (which) {
            case 0: return m.printer(a[0], a[1]);
            case 1: return m.ticket(a[0], a[1], a[2]);
            case 2: return m.job(a[0], a[1], a[2], a[3], t);
            case 3: return m.take(a[0], t);
            case 4: return m.print(a[0], a[1]);
            case 5: return m.fault(a[0]);
            case 6: return m.hold(a[0], a[1] == 0);
            case 7: return m.cancel(a[0]);
            case 8: return m.state(a[0], a[1]);
            case 9: return m.doubled(a[0], a[1] - 1);
            case 10: return m.account(a[0], a[1]);
            case 11: return m.reason(a[0]);
            case 12: return m.split(a[0], a[1], a[2]);
            default: return m.like(a[0]);
        }
    }

    /** Behind the 512th call the answers are free, but the machine must not throw. */
    private static void beyondTheCalls(Check check) {
        PrintQueue q = new PrintQueue();
        q.printer(0, 2);
        q.ticket(0, 2, 0);
        for (int j = 0; j < 40; j++) {
            q.job(1, 500, 100, 0, 0);
        }
        q.take(1, 0);
        q.print(1, 450);
        for (int i = 0; i < 3000; i++) {
            q.print(1, 2);
            q.fault(1);
            q.take(1, 0);
            q.split(i % 40 + 1, 1, 1);
        }
        check.holds("calls beyond the 512th end", true);
    }
}
