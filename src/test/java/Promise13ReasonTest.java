import java.util.NoSuchElementException;

public final class Promise13ReasonTest {
    public static void main(String[] args) {
        Check check = new Check("promise 13, reason");
        oneAfterTheOther(check);
        partsForOneAlone(check);
        noneWaits(check);
        check.end();
    }

    private static void oneAfterTheOther(Check check) {
        PrintQueue q = new PrintQueue();
        q.ticket(0, 2, 0);
        q.ticket(1, 1, 0);
        q.job(1, 2, 2, 0, 10);
        check.refused("reason(0)", NoSuchElementException.class, () -> q.reason(0));
        check.refused("reason(2)", NoSuchElementException.class, () -> q.reason(2));
        check.refused("reason(MIN)", NoSuchElementException.class, () -> q.reason(Integer.MIN_VALUE));
        check.refused("reason(MAX)", NoSuchElementException.class, () -> q.reason(Integer.MAX_VALUE));
        q.hold(1, true);
        check.due("held, later, no printer", 1, () -> q.reason(1));
        q.hold(1, false);
        check.due("later, no printer", 2, () -> q.reason(1));
        q.printer(0, 1);
        q.take(1, 9);
        check.due("later by one", 2, () -> q.reason(1));
        q.take(1, 10);
        check.due("it is time; the printer does not fit", 3, () -> q.reason(1));
        q.printer(5, 2);
        check.due("another media fits", 5, () -> q.reason(1));
        q.job(2, 1, 2, 0, 0);
        q.take(2, 10);
        check.due("the only one that fits has a part", 4, () -> q.reason(1));
        q.printer(0, 2);
        check.due("another could take it", 5, () -> q.reason(1));
        q.take(3, 10);
        check.due("it is taken", 0, () -> q.reason(1));
        q.fault(3);
        check.due("it waits again", 5, () -> q.reason(1));
    }

    private static void partsForOneAlone(Check check) {
        PrintQueue q = new PrintQueue();
        q.printer(0, 1);
        q.printer(0, 1);
        q.ticket(0, 1, 0);
        q.ticket(0, 2, 0);
        q.job(1, 1, 4, 5, 0);
        q.split(1, 2, 2);
        q.take(1, 0);
        check.due("the part for 2 alone waits, 2 is free", 5, () -> q.reason(1));
        q.job(1, 1, 1, 9, 0);
        check.due("take(2, 0)", 2, () -> q.take(2, 0));
        check.due("2 has another part", 4, () -> q.reason(1));
        q.print(1, 50000);
        check.due("1 is free, but not the one", 4, () -> q.reason(1));
        q.job(2, 1, 4, 0, 0);
        q.split(3, 1, 1);
        check.due("no part of it fits", 3, () -> q.reason(3));
        q.printer(0, 2);
        check.due("the first part fits", 5, () -> q.reason(3));
        q.take(3, 0);
        check.due("the one for 1 alone never", 3, () -> q.reason(3));
        q.hold(3, true);
        check.due("held goes before", 1, () -> q.reason(3));
    }

    private static void noneWaits(Check check) {
        PrintQueue q = new PrintQueue();
        q.printer(0, 1);
        q.ticket(0, 1, 0);
        q.job(1, 1, 1, 0, 0);
        q.take(1, 0);
        q.hold(1, true);
        check.due("held, but none waits", 0, () -> q.reason(1));
        q.print(1, 1);
        check.due("done", 0, () -> q.reason(1));
        q.job(1, 1, 1, 0, 99);
        q.cancel(2);
        check.due("cancelled", 0, () -> q.reason(2));
    }
}
