import java.util.NoSuchElementException;

public final class Promise05TakeTest {
    public static void main(String[] args) {
        Check check = new Check("promise 5, take");
        wrongInputs(check);
        time(check);
        rankThenTimeThenJob(check);
        likeness(check);
        likenessIsOfTheRank(check);
        likeNumberOfEachPrinter(check);
        likeNumberBehindAChange(check);
        partsOfOneJob(check);
        heldAndEnded(check);
        check.end();
    }

    private static PrintQueue queue() {
        PrintQueue q = new PrintQueue();
        q.printer(0, 1);
        q.printer(0, 2);
        q.ticket(0, 1, 0);
        q.ticket(1, 1, 0);
        return q;
    }

    private static void wrongInputs(Check check) {
        PrintQueue q = queue();
        q.job(1, 2, 2, 0, 0);
        Class<NoSuchElementException> none = NoSuchElementException.class;
        check.refused("take(0, 0)", none, () -> q.take(0, 0));
        check.refused("take(3, 0)", none, () -> q.take(3, 0));
        check.refused("take(-1, -1)", none, () -> q.take(-1, -1));
        check.refused("take(MIN, 0)", none, () -> q.take(Integer.MIN_VALUE, 0));
        check.refused("take(MAX, 0)", none, () -> q.take(Integer.MAX_VALUE, 0));
        check.refused("take(1, -1)", IllegalArgumentException.class, () -> q.take(1, -1));
        check.due("take(1, 5)", 1, () -> q.take(1, 5));
        check.refused("a part and before now: take(1, 4)", IllegalArgumentException.class, () -> q.take(1, 4));
        check.refused("a part: take(1, 5)", IllegalStateException.class, () -> q.take(1, 5));
        check.refused("a part: take(1, 50)", IllegalStateException.class, () -> q.take(1, 50));
        check.refused("no printer: take(3, 60)", none, () -> q.take(3, 60));
        check.due("they changed no time: take(2, 5)", 0, () -> q.take(2, 5));
    }

    private static void time(Check check) {
        PrintQueue q = queue();
        q.job(1, 1, 1, 0, 10);
        check.due("too early: take(1, 9)", 0, () -> q.take(1, 9));
        check.refused("it is 9 now: take(1, 8)", IllegalArgumentException.class, () -> q.take(1, 8));
        check.refused("for all printers: take(2, 8)", IllegalArgumentException.class, () -> q.take(2, 8));
        check.due("not later than now: take(1, 10)", 1, () -> q.take(1, 10));
        check.due("the end of time: take(2, MAX)", 0, () -> q.take(2, Long.MAX_VALUE));
        check.refused("take(2, MAX - 1)", IllegalArgumentException.class, () -> q.take(2, Long.MAX_VALUE - 1));
    }

    private static void rankThenTimeThenJob(Check check) {
        PrintQueue q = queue();
        q.job(1, 1, 1, 3, 5);
        q.job(1, 1, 1, 3, 4);
        q.job(1, 1, 1, 3, 4);
        q.job(1, 1, 1, 4, 9);
        q.job(1, 1, 1, 9, 11);
        int[] wanted = {4, 2, 3, 1, 0};
        for (int want : wanted) {
            check.due("take(1, 10)", want, () -> q.take(1, 10));
            q.print(1, 1);
        }
        check.due("later the greatest rank", 5, () -> q.take(1, 11));
    }

    private static void likeness(Check check) {
        PrintQueue q = queue();
        q.like(2);
        for (int i = 0; i < 5; i++) {
            q.job(2, 1, 1, 5, i);
            q.job(1, 1, 1, 5, i + 10);
        }
        // Media 0 is in: two like ones, then by time (a change), two like ones of media 1, and so on.
        int[] wanted = {2, 4, 1, 3, 5, 7, 9, 6, 8, 10};
        for (int want : wanted) {
            check.due("take(1, 20)", want, () -> q.take(1, 20));
            q.print(1, 1);
        }
        check.due("changes to media 0", 1, () -> q.account(1, 2));
        check.due("changes to media 1", 1, () -> q.account(2, 2));
    }

    private static void likenessIsOfTheRank(Check check) {
        PrintQueue q = queue();
        q.job(1, 1, 1, 4, 0);
        q.job(2, 1, 1, 5, 0);
        q.job(1, 1, 1, 4, 0);
        check.due("rank goes before likeness", 2, () -> q.take(1, 0));
        check.due("a change", 1, () -> q.account(2, 2));
    }

    private static void likeNumberOfEachPrinter(Check check) {
        PrintQueue q = queue();
        q.like(1);
        q.job(2, 1, 1, 5, 0);
        q.job(1, 1, 1, 5, 1);
        q.job(1, 1, 1, 5, 2);
        check.due("printer 1 takes a like one", 2, () -> q.take(1, 9));
        check.due("printer 2 has a number of its own", 3, () -> q.take(2, 9));
        q.fault(2);
        check.due("the number is kept behind a fault", 1, () -> q.take(2, 9));
    }

    private static void likeNumberBehindAChange(Check check) {
        PrintQueue q = queue();
        q.like(1);
        q.job(2, 1, 1, 5, 1);
        q.job(2, 1, 1, 5, 9);
        q.job(1, 1, 1, 5, 2);
        q.job(1, 1, 1, 5, 3);
        int[] wanted = {3, 1, 2, 4};
        for (int want : wanted) {
            check.due("one like one at most: take(1, 9)", want, () -> q.take(1, 9));
            q.print(1, 1);
        }
    }

    private static void partsOfOneJob(Check check) {
        PrintQueue q = queue();
        q.job(1, 1, 10, 5, 0);
        q.split(1, 2, 3);
        q.split(1, 1, 4);
        check.due("printer 1: the first part", 1, () -> q.take(1, 0));
        check.due("it has 3 copies", 3, () -> q.print(1, 50000));
        check.due("printer 1: the part for it alone", 1, () -> q.take(1, 0));
        check.due("it has 4 copies", 4, () -> q.print(1, 50000));
        check.due("printer 1 does not fit the last", 0, () -> q.take(1, 0));
        check.due("printer 2: the part for it alone", 1, () -> q.take(2, 0));
        check.due("it has 3 copies", 3, () -> q.print(2, 50000));
    }

    private static void heldAndEnded(Check check) {
        PrintQueue q = queue();
        q.ticket(0, 2, 0);
        q.job(1, 1, 1, 9, 0);
        q.job(1, 1, 1, 8, 0);
        q.job(3, 1, 1, 7, 0);
        q.job(1, 1, 1, 0, 0);
        q.hold(1, true);
        q.cancel(2);
        check.due("one side: not 3", 4, () -> q.take(1, 0));
        check.due("both sides: 3", 3, () -> q.take(2, 0));
        q.print(1, 1);
        check.due("none is left", 0, () -> q.take(1, 0));
        q.hold(1, false);
        check.due("no longer held", 1, () -> q.take(1, 0));
    }
}
