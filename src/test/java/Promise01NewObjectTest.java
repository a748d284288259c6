import java.util.NoSuchElementException;

public final class Promise01NewObjectTest {
    public static void main(String[] args) {
        Check check = new Check("promise 1, a new object");
        PrintQueue q = new PrintQueue();
        check.refused("no printers: take(1, 0)", NoSuchElementException.class, () -> q.take(1, 0));
        check.refused("no tickets: account(1, 0)", NoSuchElementException.class, () -> q.account(1, 0));
        check.refused("no jobs: state(1, 0)", NoSuchElementException.class, () -> q.state(1, 0));
        check.due("the bound is 3: like(3)", 3, () -> q.like(3));
        check.due("the first printer", 1, () -> q.printer(0, 1));
        check.due("the first ticket", 1, () -> q.ticket(0, 1, 0));
        check.due("the first job", 1, () -> q.job(1, 1, 1, 0, 0));
        check.due("the time is 0: reason(1)", 5, () -> q.reason(1));
        check.due("a job of time 1", 2, () -> q.job(1, 1, 1, 0, 1));
        check.due("the time is 0: reason(2)", 2, () -> q.reason(2));
        firstBoundIsThree(check);
        objectsAreApart(check, q);
        check.end();
    }

    private static void firstBoundIsThree(Check check) {
        PrintQueue q = new PrintQueue();
        q.printer(0, 1);
        q.ticket(0, 1, 0);
        q.ticket(1, 1, 0);
        q.job(2, 1, 1, 0, 0);
        for (int i = 0; i < 4; i++) {
            q.job(1, 1, 1, 0, 0);
        }
        for (int want = 2; want <= 4; want++) {
            check.due("like media go first", want, () -> q.take(1, 0));
            q.print(1, 1);
        }
        check.due("not the fourth time", 1, () -> q.take(1, 0));
    }

    private static void objectsAreApart(Check check, PrintQueue used) {
        used.like(77);
        used.take(1, 100);
        PrintQueue other = new PrintQueue();
        check.due("another object's bound", 3, () -> other.like(3));
        check.due("another object's first printer", 1, () -> other.printer(0, 1));
        check.due("another object's time", 0, () -> other.take(1, 0));
        check.refused("another object's jobs", NoSuchElementException.class, () -> other.state(1, 0));
    }
}
