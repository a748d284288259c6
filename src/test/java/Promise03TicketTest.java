public final class Promise03TicketTest {
    public static void main(String[] args) {
        Check check = new Check("promise 3, ticket");
        PrintQueue q = new PrintQueue();
        wrongInputs(check, q);
        check.due("ticket(0, 1, 0)", 1, () -> q.ticket(0, 1, 0));
        check.due("ticket(7, 2, 3)", 2, () -> q.ticket(7, 2, 3));
        check.due("ticket(7, 1, 3)", 3, () -> q.ticket(7, 1, 3));
        for (int number = 4; number <= 20; number++) {
            check.due("ticket(3, 1, 1)", number, () -> q.ticket(3, 1, 1));
        }
        check.refused("the twenty-first", UnsupportedOperationException.class, () -> q.ticket(0, 1, 0));
        wrongInputs(check, q);
        mediaAndSidesAreKept(check, q);
        check.end();
    }

    /** Also when there are 20, since IllegalArgumentException is named first. */
    private static void wrongInputs(Check check, PrintQueue q) {
        Class<IllegalArgumentException> want = IllegalArgumentException.class;
        check.refused("ticket(-1, 1, 0)", want, () -> q.ticket(-1, 1, 0));
        check.refused("ticket(8, 1, 0)", want, () -> q.ticket(8, 1, 0));
        check.refused("ticket(0, 0, 0)", want, () -> q.ticket(0, 0, 0));
        check.refused("ticket(0, 3, 0)", want, () -> q.ticket(0, 3, 0));
        check.refused("ticket(0, 1, -1)", want, () -> q.ticket(0, 1, -1));
        check.refused("ticket(0, 1, 4)", want, () -> q.ticket(0, 1, 4));
        check.refused("ticket(MIN, 1, 0)", want, () -> q.ticket(Integer.MIN_VALUE, 1, 0));
        check.refused("ticket(0, MAX, 0)", want, () -> q.ticket(0, Integer.MAX_VALUE, 0));
        check.refused("ticket(0, 1, MAX)", want, () -> q.ticket(0, 1, Integer.MAX_VALUE));
    }

    private static void mediaAndSidesAreKept(Check check, PrintQueue q) {
        q.printer(7, 1);
        q.job(2, 1, 1, 0, 0);
        check.due("the ticket says sides 2: reason(1)", 3, () -> q.reason(1));
        q.job(3, 1, 1, 0, 0);
        check.due("the ticket says sides 1: take(1, 0)", 2, () -> q.take(1, 0));
        check.due("the ticket says media 7: account(3, 2)", 0, () -> q.account(3, 2));
    }
}
