import java.util.NoSuchElementException;

public final class Promise11DoubledTest {
    public static void main(String[] args) {
        Check check = new Check("promise 11, doubled");
        PrintQueue q = new PrintQueue();
        q.printer(0, 1);
        q.printer(0, 1);
        q.ticket(0, 1, 0);
        q.job(1, 500, 100, 0, 0);
        q.job(1, 3, 2, 0, 0);
        check.due("none yet: doubled(1, -1)", 0, () -> q.doubled(1, -1));
        check.refused("none yet: doubled(1, 0)", IndexOutOfBoundsException.class, () -> q.doubled(1, 0));
        q.split(1, 2, 50);
        faultBehind(q, 1, 25000 - 1);
        check.due("the last copy but one page", 50499, () -> q.doubled(1, 0));
        faultBehind(q, 2, 1);
        check.due("the same page at another printer", 50499, () -> q.doubled(1, 1));
        q.cancel(1);
        check.due("kept when cancelled", 2, () -> q.doubled(1, -1));
        check.due("of another job none", 0, () -> q.doubled(2, -1));
        faultBehind(q, 1, 2);
        faultBehind(q, 1, 1);
        faultBehind(q, 1, 3);
        check.due("three", 3, () -> q.doubled(2, -1));
        check.due("the first", 1002, () -> q.doubled(2, 0));
        check.due("the same again", 1002, () -> q.doubled(2, 1));
        check.due("the third", 2001, () -> q.doubled(2, 2));
        splitPartCountsItsOwnCopies(check);
        wrongInputs(check, q);
        manyOfOneJob(check);
        check.end();
    }

    private static void faultBehind(PrintQueue q, int printer, int pages) {
        q.take(printer, 0);
        q.print(printer, pages);
        q.fault(printer);
    }

    private static void splitPartCountsItsOwnCopies(Check check) {
        PrintQueue q = new PrintQueue();
        q.printer(0, 1);
        q.printer(0, 1);
        q.ticket(0, 1, 0);
        q.job(1, 3, 5, 0, 0);
        q.split(1, 2, 2);
        q.take(1, 0);
        faultBehind(q, 2, 5);
        check.due("copy 2 of the part that was split off", 2002, () -> q.doubled(1, 0));
    }

    private static void wrongInputs(Check check, PrintQueue q) {
        Class<NoSuchElementException> none = NoSuchElementException.class;
        check.refused("doubled(0, -1)", none, () -> q.doubled(0, -1));
        check.refused("doubled(3, -2)", none, () -> q.doubled(3, -2));
        check.refused("doubled(MAX, 0)", none, () -> q.doubled(Integer.MAX_VALUE, 0));
        Class<IndexOutOfBoundsException> out = IndexOutOfBoundsException.class;
        check.refused("doubled(2, -2)", out, () -> q.doubled(2, -2));
        check.refused("doubled(2, 3)", out, () -> q.doubled(2, 3));
        check.refused("doubled(2, MIN)", out, () -> q.doubled(2, Integer.MIN_VALUE));
        check.refused("doubled(2, MAX)", out, () -> q.doubled(2, Integer.MAX_VALUE));
    }

    /** As many as 512 calls can make: a take and a fault each. */
    private static void manyOfOneJob(Check check) {
        PrintQueue q = new PrintQueue();
        q.printer(0, 1);
        q.ticket(0, 1, 0);
        q.job(1, 500, 1, 0, 0);
        q.take(1, 0);
        q.print(1, 400);
        q.fault(1);
        for (int i = 1; i < 250; i++) {
            q.take(1, 0);
            q.fault(1);
        }
        check.due("250 of them", 250, () -> q.doubled(1, -1));
        check.due("the last", 1151, () -> q.doubled(1, 249));
    }
}
