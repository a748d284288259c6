import java.util.NoSuchElementException;

public final class Promise14SplitTest {
    public static void main(String[] args) {
        Check check = new Check("promise 14, split");
        wrongInputs(check);
        oneMoreStays(check);
        copiesOfWhichNoPageWasPrinted(check);
        onlyWaitingPartsForAny(check);
        theMostParts(check);
        check.end();
    }

    private static PrintQueue queue(int pages, int copies) {
        PrintQueue q = new PrintQueue();
        q.printer(0, 1);
        q.printer(0, 1);
        q.ticket(0, 1, 0);
        q.job(1, pages, copies, 0, 0);
        return q;
    }

    private static void wrongInputs(Check check) {
        PrintQueue q = queue(1, 5);
        Class<NoSuchElementException> none = NoSuchElementException.class;
        check.refused("split(0, 1, 1)", none, () -> q.split(0, 1, 1));
        check.refused("split(2, 1, 1)", none, () -> q.split(2, 1, 1));
        check.refused("split(1, 0, 1)", none, () -> q.split(1, 0, 1));
        check.refused("split(1, 3, 1)", none, () -> q.split(1, 3, 1));
        check.refused("split(1, 3, 0)", none, () -> q.split(1, 3, 0));
        check.refused("split(MIN, MAX, 1)", none, () -> q.split(Integer.MIN_VALUE, Integer.MAX_VALUE, 1));
        check.due("split(1, 1, 0)", 0, () -> q.split(1, 1, 0));
        check.due("split(1, 1, -1)", 0, () -> q.split(1, 1, -1));
        check.due("split(1, 1, MIN)", 0, () -> q.split(1, 1, Integer.MIN_VALUE));
        check.due("split(1, 1, MAX)", 0, () -> q.split(1, 1, Integer.MAX_VALUE));
        check.due("one part still", 1, () -> q.state(1, 3));
    }

    private static void oneMoreStays(Check check) {
        PrintQueue q = queue(2, 5);
        check.due("all: split(1, 2, 5)", 0, () -> q.split(1, 2, 5));
        check.due("all but one: split(1, 2, 4)", 1, () -> q.split(1, 2, 4));
        check.due("two parts", 2, () -> q.state(1, 3));
        check.due("the one that stays: split(1, 2, 1)", 0, () -> q.split(1, 2, 1));
        q.take(1, 0);
        check.due("one copy stayed", 2, () -> q.print(1, 50000));
        check.due("the part is for 2 alone: take(1, 0)", 0, () -> q.take(1, 0));
        check.due("the part is for 2 alone: take(2, 0)", 1, () -> q.take(2, 0));
        check.due("four copies were split off", 8, () -> q.print(2, 50000));
        check.due("all is done", 2, () -> q.state(1, 0));
    }

    private static void copiesOfWhichNoPageWasPrinted(Check check) {
        PrintQueue q = queue(3, 6);
        q.take(1, 0);
        q.print(1, 5);
        q.fault(1);
        check.due("four such, none more: split(1, 1, 4)", 0, () -> q.split(1, 1, 4));
        check.due("three, and one more: split(1, 1, 3)", 1, () -> q.split(1, 1, 3));
        q.take(2, 0);
        check.due("the first part goes on", 5, () -> q.print(2, 50000));
        PrintQueue r = queue(3, 2);
        r.take(1, 0);
        r.print(1, 1);
        r.fault(1);
        check.due("a doubled page counts as not printed", 1, () -> r.split(1, 1, 1));
        PrintQueue s = queue(3, 2);
        s.take(1, 0);
        s.print(1, 2);
        s.fault(1);
        check.due("the begun copy is no such", 0, () -> s.split(1, 1, 1));
    }

    private static void onlyWaitingPartsForAny(Check check) {
        PrintQueue q = queue(1, 9);
        check.due("split(1, 2, 5)", 1, () -> q.split(1, 2, 5));
        check.due("not off a part for one alone: split(1, 1, 4)", 0, () -> q.split(1, 1, 4));
        q.take(1, 0);
        check.due("not off a part at a printer: split(1, 1, 1)", 0, () -> q.split(1, 1, 1));
        q.fault(1);
        q.hold(1, true);
        check.due("off a held one: split(1, 1, 1)", 1, () -> q.split(1, 1, 1));
        q.cancel(1);
        check.due("not off a cancelled one: split(1, 1, 1)", 0, () -> q.split(1, 1, 1));
        q.ticket(0, 2, 0);
        q.job(2, 1, 2, 0, 99);
        check.due("for a printer that does not fit: split(2, 1, 1)", 1, () -> q.split(2, 1, 1));
    }

    private static void theMostParts(Check check) {
        PrintQueue q = queue(1, 100);
        for (int i = 1; i < 100; i++) {
            check.due("split(1, 2, 1)", 1, () -> q.split(1, 2, 1));
        }
        check.due("no copy more", 0, () -> q.split(1, 2, 1));
        check.due("a hundred parts", 100, () -> q.state(1, 3));
        for (int i = 0; i < 100; i++) {
            check.due("take(2, 0)", 1, () -> q.take(2, 0));
            check.due("print(2, 9)", 1, () -> q.print(2, 9));
        }
        check.due("all is done", 2, () -> q.state(1, 0));
    }
}
