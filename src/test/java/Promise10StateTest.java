import java.util.NoSuchElementException;

public final class Promise10StateTest {
    public static void main(String[] args) {
        Check check = new Check("promise 10, state");
        PrintQueue q = new PrintQueue();
        q.printer(0, 1);
        q.printer(0, 1);
        q.ticket(0, 1, 0);
        q.job(1, 3, 5, 0, 0);
        wrongInputs(check, q);
        states(check, q, "new", 0, 0, 0, 1, 0);
        q.split(1, 2, 2);
        states(check, q, "two parts", 0, 0, 0, 2, 0);
        q.take(1, 0);
        states(check, q, "one at a printer, one waits", 1, 0, 0, 2, 0);
        q.print(1, 5);
        q.take(2, 0);
        q.print(2, 5);
        states(check, q, "begun copies are not whole", 1, 10, 2, 2, 0);
        q.hold(1, true);
        q.fault(1);
        states(check, q, "a doubled page does not count", 1, 9, 2, 2, 1);
        q.print(2, 1);
        states(check, q, "one over, one waits", 0, 10, 3, 2, 1);
        q.hold(1, false);
        q.take(1, 0);
        q.print(1, 50000);
        states(check, q, "done", 2, 15, 5, 2, 0);
        q.cancel(1);
        states(check, q, "done is not cancelled", 2, 15, 5, 2, 0);
        wrongInputs(check, q);
        q.job(1, 1, 1, 0, 0);
        q.cancel(2);
        check.due("cancelled", 3, () -> q.state(2, 0));
        check.end();
    }

    private static void states(Check check, PrintQueue q, String when, int... wanted) {
        for (int what = 0; what < wanted.length; what++) {
            int of = what;
            check.due(when + ": state(1, " + of + ")", wanted[of], () -> q.state(1, of));
        }
    }

    private static void wrongInputs(Check check, PrintQueue q) {
        Class<NoSuchElementException> none = NoSuchElementException.class;
        check.refused("state(0, 0)", none, () -> q.state(0, 0));
        check.refused("state(2, 0)", none, () -> q.state(2, 0));
        check.refused("state(-1, 9)", none, () -> q.state(-1, 9));
        check.refused("state(MIN, 0)", none, () -> q.state(Integer.MIN_VALUE, 0));
        Class<IndexOutOfBoundsException> out = IndexOutOfBoundsException.class;
        check.refused("state(1, -1)", out, () -> q.state(1, -1));
        check.refused("state(1, 5)", out, () -> q.state(1, 5));
        check.refused("state(1, MAX)", out, () -> q.state(1, Integer.MAX_VALUE));
    }
}
