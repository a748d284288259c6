import java.util.NoSuchElementException;

public final class Promise04JobTest {
    public static void main(String[] args) {
        Check check = new Check("promise 4, job");
        PrintQueue q = new PrintQueue();
        q.ticket(0, 1, 0);
        q.printer(0, 1);
        wrongInputs(check, q);
        check.due("the least of all", 1, () -> q.job(1, 1, 1, 0, 0));
        check.due("the most of all", 2, () -> q.job(1, 500, 100, 9, Long.MAX_VALUE));
        for (int number = 3; number <= 60; number++) {
            check.due("job(1, 2, 2, 5, 0)", number, () -> q.job(1, 2, 2, 5, 0));
        }
        check.refused("the sixty-first", UnsupportedOperationException.class, () -> q.job(1, 1, 1, 0, 0));
        wrongInputs(check, q);
        allIsKept(check, q);
        timeMayBeBeforeNow(check);
        check.end();
    }

    /** Also when there are 60, since the others are named first. */
    private static void wrongInputs(Check check, PrintQueue q) {
        Class<NoSuchElementException> none = NoSuchElementException.class;
        check.refused("job(0, 1, 1, 0, 0)", none, () -> q.job(0, 1, 1, 0, 0));
        check.refused("job(2, 1, 1, 0, 0)", none, () -> q.job(2, 1, 1, 0, 0));
        check.refused("job(-1, 1, 1, 0, 0)", none, () -> q.job(-1, 1, 1, 0, 0));
        check.refused("job(MIN, ..)", none, () -> q.job(Integer.MIN_VALUE, 1, 1, 0, 0));
        check.refused("job(MAX, ..)", none, () -> q.job(Integer.MAX_VALUE, 1, 1, 0, 0));
        check.refused("all wrong: job(2, 0, 0, 10, -1)", none, () -> q.job(2, 0, 0, 10, -1));
        Class<IllegalArgumentException> want = IllegalArgumentException.class;
        check.refused("job(1, 0, 1, 0, 0)", want, () -> q.job(1, 0, 1, 0, 0));
        check.refused("job(1, 501, 1, 0, 0)", want, () -> q.job(1, 501, 1, 0, 0));
        check.refused("job(1, 1, 0, 0, 0)", want, () -> q.job(1, 1, 0, 0, 0));
        check.refused("job(1, 1, 101, 0, 0)", want, () -> q.job(1, 1, 101, 0, 0));
        check.refused("job(1, 1, 1, -1, 0)", want, () -> q.job(1, 1, 1, -1, 0));
        check.refused("job(1, 1, 1, 10, 0)", want, () -> q.job(1, 1, 1, 10, 0));
        check.refused("job(1, 1, 1, 0, -1)", want, () -> q.job(1, 1, 1, 0, -1));
        check.refused("job(1, 1, 1, 0, MIN)", want, () -> q.job(1, 1, 1, 0, Long.MIN_VALUE));
    }

    private static void allIsKept(Check check, PrintQueue q) {
        check.due("a new job has one part", 1, () -> q.state(2, 3));
        check.due("a new job waits", 0, () -> q.state(2, 0));
        check.due("a new job has no pages", 0, () -> q.state(2, 1));
        check.due("a new job is not held", 0, () -> q.state(2, 4));
        check.due("rank 9 goes first, when it is time", 2, () -> q.take(1, Long.MAX_VALUE));
        check.due("500 pages of 100 copies", 50000, () -> q.print(1, 50000));
        check.due("rank 5 goes before 0", 3, () -> q.take(1, Long.MAX_VALUE));
        check.due("2 pages of 2 copies", 4, () -> q.print(1, 50000));
    }

    private static void timeMayBeBeforeNow(Check check) {
        PrintQueue q = new PrintQueue();
        q.printer(0, 1);
        q.ticket(0, 1, 0);
        q.take(1, 50);
        check.due("a job of a time that was", 1, () -> q.job(1, 1, 1, 0, 10));
        check.due("take(1, 50)", 1, () -> q.take(1, 50));
    }
}
