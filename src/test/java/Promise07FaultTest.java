import java.util.NoSuchElementException;

public final class Promise07FaultTest {
    public static void main(String[] args) {
        Check check = new Check("promise 7, fault");
        PrintQueue q = new PrintQueue();
        q.printer(0, 1);
        q.printer(0, 1);
        q.ticket(0, 1, 0);
        check.refused("fault(0)", NoSuchElementException.class, () -> q.fault(0));
        check.refused("fault(3)", NoSuchElementException.class, () -> q.fault(3));
        check.refused("fault(MIN)", NoSuchElementException.class, () -> q.fault(Integer.MIN_VALUE));
        check.refused("fault(MAX)", NoSuchElementException.class, () -> q.fault(Integer.MAX_VALUE));
        check.due("no part: fault(1)", 0, () -> q.fault(1));
        q.job(1, 4, 3, 0, 0);
        after(check, q, 0, 1, 0);
        after(check, q, 1, 1, 0);
        after(check, q, 3, 3, 2);
        check.due("the last page was doubled", 1003, () -> q.doubled(1, 1));
        after(check, q, 2, 1, 4);
        check.due("a whole copy doubles none", 2, () -> q.doubled(1, -1));
        after(check, q, 7, 3, 10);
        check.due("page 3 of copy 3", 3003, () -> q.doubled(1, 2));
        after(check, q, 0, 2, 9);
        check.due("one more, though none came out since", 3002, () -> q.doubled(1, 3));
        goesOnElsewhere(check, q);
        onePageCopies(check);
        check.end();
    }

    /** Takes, prints so many pages and has a fault: the answer, and the pages that count then. */
    private static void after(Check check, PrintQueue q, int pages, int answer, int count) {
        q.take(1, 0);
        q.print(1, pages);
        check.due("fault(1) behind " + pages + " pages", answer, () -> q.fault(1));
        check.due("pages that count", count, () -> q.state(1, 1));
        check.due("it waits", 0, () -> q.state(1, 0));
        check.due("the printer has none: fault(1)", 0, () -> q.fault(1));
        check.due("the printer has none: print(1, 1)", 0, () -> q.print(1, 1));
    }

    private static void goesOnElsewhere(Check check, PrintQueue q) {
        check.due("another printer takes it", 1, () -> q.take(2, 0));
        check.due("and prints what is left", 3, () -> q.print(2, 50000));
        check.due("it is done", 2, () -> q.state(1, 0));
        check.due("doubled ones came out each time", 12 + 3 + 1, () -> q.account(1, 0));
    }

    private static void onePageCopies(Check check) {
        PrintQueue q = new PrintQueue();
        q.printer(0, 1);
        q.ticket(0, 1, 0);
        q.job(1, 1, 3, 0, 0);
        q.take(1, 0);
        q.print(1, 2);
        check.due("copies of one page are never begun", 1, () -> q.fault(1));
        check.due("none is doubled", 0, () -> q.doubled(1, -1));
        check.due("both count", 2, () -> q.state(1, 1));
    }
}
