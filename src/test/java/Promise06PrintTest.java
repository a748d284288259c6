import java.util.NoSuchElementException;

public final class Promise06PrintTest {
    public static void main(String[] args) {
        Check check = new Check("promise 6, print");
        PrintQueue q = new PrintQueue();
        q.printer(0, 1);
        q.printer(0, 1);
        q.ticket(0, 1, 0);
        q.job(1, 3, 4, 0, 0);
        wrongInputs(check, q);
        check.due("no part: print(1, 5)", 0, () -> q.print(1, 5));
        q.take(1, 0);
        wrongInputs(check, q);
        check.due("print(1, 0)", 0, () -> q.print(1, 0));
        check.due("print(1, 5)", 5, () -> q.print(1, 5));
        check.due("the other printer has no part", 0, () -> q.print(2, 5));
        check.due("pages that count", 5, () -> q.state(1, 1));
        check.due("copies that count", 1, () -> q.state(1, 2));
        check.due("it prints", 1, () -> q.state(1, 0));
        check.due("all but one", 6, () -> q.print(1, 6));
        check.due("it prints still", 1, () -> q.state(1, 0));
        check.due("all that are left: print(1, 50000)", 1, () -> q.print(1, 50000));
        check.due("it is done", 2, () -> q.state(1, 0));
        check.due("the printer has none", 0, () -> q.print(1, 1));
        check.due("and may take", 0, () -> q.take(1, 0));
        check.due("nothing more came out", 12, () -> q.account(1, 0));
        exactlyAll(check, q);
        check.end();
    }

    private static void wrongInputs(Check check, PrintQueue q) {
        Class<NoSuchElementException> none = NoSuchElementException.class;
        check.refused("print(0, 1)", none, () -> q.print(0, 1));
        check.refused("print(3, 1)", none, () -> q.print(3, 1));
        check.refused("print(-1, -1)", none, () -> q.print(-1, -1));
        check.refused("print(MAX, 1)", none, () -> q.print(Integer.MAX_VALUE, 1));
        Class<IllegalArgumentException> want = IllegalArgumentException.class;
        check.refused("print(1, -1)", want, () -> q.print(1, -1));
        check.refused("print(1, 50001)", want, () -> q.print(1, 50001));
        check.refused("print(1, MIN)", want, () -> q.print(1, Integer.MIN_VALUE));
        check.refused("print(1, MAX)", want, () -> q.print(1, Integer.MAX_VALUE));
        check.due("nothing came out", 0, () -> q.account(1, 0));
    }

    private static void exactlyAll(Check check, PrintQueue q) {
        q.job(1, 2, 2, 0, 0);
        q.take(2, 0);
        check.due("exactly all", 4, () -> q.print(2, 4));
        check.due("it is done at once", 2, () -> q.state(2, 0));
        check.due("no fault any more", 0, () -> q.fault(2));
    }
}
