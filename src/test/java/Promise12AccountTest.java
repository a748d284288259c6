import java.util.NoSuchElementException;

public final class Promise12AccountTest {
    public static void main(String[] args) {
        Check check = new Check("promise 12, account");
        oneSide(check);
        bothSides(check);
        bothSidesOfEvenCopies(check);
        changes(check);
        moreThanOneJob(check);
        check.end();
    }

    private static PrintQueue queue(int sides) {
        PrintQueue q = new PrintQueue();
        q.printer(0, 2);
        q.ticket(0, sides, 0);
        return q;
    }

    private static void accounts(Check check, PrintQueue q, int ticket, String when, long... wanted) {
        for (int what = 0; what < wanted.length; what++) {
            int of = what;
            check.due(when + ": account(" + ticket + ", " + of + ")", wanted[of], () -> q.account(ticket, of));
        }
    }

    private static void oneSide(Check check) {
        PrintQueue q = queue(1);
        accounts(check, q, 1, "new", 0, 0, 0, 0);
        Class<NoSuchElementException> none = NoSuchElementException.class;
        check.refused("account(0, 0)", none, () -> q.account(0, 0));
        check.refused("account(2, 4)", none, () -> q.account(2, 4));
        check.refused("account(MIN, 0)", none, () -> q.account(Integer.MIN_VALUE, 0));
        Class<IndexOutOfBoundsException> out = IndexOutOfBoundsException.class;
        check.refused("account(1, -1)", out, () -> q.account(1, -1));
        check.refused("account(1, 4)", out, () -> q.account(1, 4));
        check.refused("account(1, MAX)", out, () -> q.account(1, Integer.MAX_VALUE));
        q.job(1, 5, 2, 0, 0);
        q.take(1, 0);
        q.print(1, 4);
        q.fault(1);
        q.take(1, 0);
        q.print(1, 50000);
        accounts(check, q, 1, "a sheet for each page", 11, 11, 0, 1);
    }

    private static void bothSides(Check check) {
        PrintQueue q = queue(2);
        q.job(1, 5, 3, 0, 0);
        q.take(1, 0);
        q.print(1, 0);
        accounts(check, q, 1, "no page", 0, 0, 0, 0);
        q.print(1, 1);
        accounts(check, q, 1, "page 1", 1, 1, 0, 0);
        q.print(1, 1);
        accounts(check, q, 1, "page 2 on its back", 2, 1, 0, 0);
        q.fault(1);
        q.take(1, 0);
        q.print(1, 0);
        q.print(1, 1);
        accounts(check, q, 1, "page 2 once more, on a new sheet", 3, 2, 0, 1);
        q.print(1, 2);
        accounts(check, q, 1, "page 3 and 4", 5, 3, 0, 1);
        q.print(1, 6);
        accounts(check, q, 1, "page 5 and a copy", 11, 7, 0, 1);
        q.fault(1);
        q.take(1, 0);
        q.print(1, 50000);
        accounts(check, q, 1, "an odd page behind a fault is one sheet", 16, 10, 0, 1);
    }

    private static void bothSidesOfEvenCopies(Check check) {
        PrintQueue q = queue(2);
        q.job(1, 4, 3, 0, 0);
        q.take(1, 0);
        q.print(1, 6);
        accounts(check, q, 1, "a copy and a half", 6, 3, 0, 0);
        q.fault(1);
        q.take(1, 0);
        q.print(1, 50000);
        accounts(check, q, 1, "from page 2 of copy 2", 13, 7, 0, 1);
        q.job(1, 500, 100, 0, 0);
        q.take(1, 0);
        q.print(1, 50000);
        accounts(check, q, 1, "the largest job", 50013, 25007, 0, 1);
        q.job(1, 1, 7, 0, 0);
        q.take(1, 0);
        q.print(1, 50000);
        accounts(check, q, 1, "copies of one page", 50020, 25014, 0, 1);
    }

    private static void changes(Check check) {
        PrintQueue q = queue(1);
        q.ticket(1, 1, 0);
        q.ticket(1, 1, 0);
        for (int ticket = 1; ticket <= 3; ticket++) {
            q.job(ticket, 1, 1, 9 - ticket, 0);
        }
        q.job(1, 1, 1, 0, 0);
        for (int i = 0; i < 4; i++) {
            q.take(1, 0);
            q.print(1, 1);
        }
        accounts(check, q, 1, "the way back is its own", 2, 2, 1, 0);
        accounts(check, q, 2, "another media than was in", 1, 1, 1, 0);
        accounts(check, q, 3, "the same media by another ticket", 1, 1, 0, 0);
    }

    private static void moreThanOneJob(Check check) {
        PrintQueue q = queue(1);
        q.ticket(0, 1, 0);
        for (int i = 0; i < 3; i++) {
            q.job(1, 2, 2, 0, 0);
            q.take(1, 0);
            q.print(1, 3);
            q.cancel(i + 1);
        }
        accounts(check, q, 1, "three cancelled jobs", 9, 9, 0, 0);
        accounts(check, q, 2, "another ticket", 0, 0, 0, 0);
    }
}
