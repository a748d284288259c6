import java.util.NoSuchElementException;

public final class Promise09CancelTest {
    public static void main(String[] args) {
        Check check = new Check("promise 9, cancel");
        PrintQueue q = new PrintQueue();
        q.printer(0, 1);
        q.printer(0, 1);
        q.printer(0, 1);
        q.ticket(0, 1, 0);
        q.job(1, 2, 10, 5, 0);
        q.job(1, 2, 1, 1, 0);
        check.refused("cancel(0)", NoSuchElementException.class, () -> q.cancel(0));
        check.refused("cancel(3)", NoSuchElementException.class, () -> q.cancel(3));
        check.refused("cancel(MAX)", NoSuchElementException.class, () -> q.cancel(Integer.MAX_VALUE));
        partsEverywhere(check, q);
        waitingAndDone(check, q);
        check.end();
    }

    private static void partsEverywhere(Check check, PrintQueue q) {
        q.split(1, 1, 1);
        q.split(1, 2, 2);
        q.split(1, 2, 3);
        q.take(3, 0);
        q.take(1, 0);
        q.print(1, 2);
        q.take(2, 0);
        q.print(2, 3);
        q.take(1, 0);
        check.due("one part is over, two at printers, one waits", 3, () -> q.cancel(1));
        check.due("cancelled already", 0, () -> q.cancel(1));
        check.due("it is cancelled", 3, () -> q.state(1, 0));
        check.due("its pages count", 5, () -> q.state(1, 1));
        check.due("its copies count", 2, () -> q.state(1, 2));
        check.due("it had parts", 4, () -> q.state(1, 3));
        check.due("its printers have none: print(2, 1)", 0, () -> q.print(2, 1));
        check.due("its printers have none: fault(3)", 0, () -> q.fault(3));
        check.due("nothing of it is taken", 0, () -> q.take(2, 0));
        check.due("nothing of it waits", 0, () -> q.reason(1));
        check.due("nothing of it is split", 0, () -> q.split(1, 1, 1));
    }

    private static void waitingAndDone(Check check, PrintQueue q) {
        check.due("another job's printer goes on", 2, () -> q.print(1, 50000));
        check.due("that is done", 0, () -> q.cancel(2));
        check.due("and stays so", 2, () -> q.state(2, 0));
        q.job(1, 1, 4, 0, 100);
        q.split(3, 1, 2);
        q.hold(3, true);
        check.due("two parts wait", 2, () -> q.cancel(3));
        check.due("it is held still", 1, () -> q.state(3, 4));
        check.due("it is cancelled", 3, () -> q.state(3, 0));
    }
}
