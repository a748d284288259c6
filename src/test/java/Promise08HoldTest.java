import java.util.NoSuchElementException;

public final class Promise08HoldTest {
    public static void main(String[] args) {
        Check check = new Check("promise 8, hold");
        PrintQueue q = new PrintQueue();
        q.printer(0, 1);
        q.ticket(0, 1, 0);
        q.job(1, 2, 2, 0, 0);
        q.job(1, 2, 2, 0, 0);
        check.refused("hold(0, true)", NoSuchElementException.class, () -> q.hold(0, true));
        check.refused("hold(3, false)", NoSuchElementException.class, () -> q.hold(3, false));
        check.refused("hold(MIN, true)", NoSuchElementException.class, () -> q.hold(Integer.MIN_VALUE, true));
        check.due("it was not: hold(1, false)", 0, () -> q.hold(1, false));
        check.due("it was not: hold(1, true)", 0, () -> q.hold(1, true));
        check.due("it was: hold(1, true)", 1, () -> q.hold(1, true));
        check.due("it is held", 1, () -> q.state(1, 4));
        check.due("the other is not", 0, () -> q.state(2, 4));
        check.due("a held one is not taken", 2, () -> q.take(1, 0));
        check.due("hold(2, true)", 0, () -> q.hold(2, true));
        check.due("parts at printers go on", 3, () -> q.print(1, 3));
        check.due("it prints", 1, () -> q.state(2, 0));
        q.fault(1);
        check.due("none may be taken", 0, () -> q.take(1, 0));
        check.due("it was: hold(2, false)", 1, () -> q.hold(2, false));
        check.due("now it may", 2, () -> q.take(1, 0));
        q.print(1, 50000);
        check.due("one that is done", 0, () -> q.hold(2, true));
        check.due("is held", 1, () -> q.state(2, 4));
        check.due("and done", 2, () -> q.state(2, 0));
        check.end();
    }
}
