public final class Promise02PrinterTest {
    public static void main(String[] args) {
        Check check = new Check("promise 2, printer");
        PrintQueue q = new PrintQueue();
        wrongInputs(check, q);
        check.due("printer(0, 1)", 1, () -> q.printer(0, 1));
        check.due("printer(7, 2)", 2, () -> q.printer(7, 2));
        check.due("printer(0, 2)", 3, () -> q.printer(0, 2));
        for (int number = 4; number <= 8; number++) {
            check.due("printer(7, 1)", number, () -> q.printer(7, 1));
        }
        check.refused("the ninth", UnsupportedOperationException.class, () -> q.printer(0, 1));
        wrongInputs(check, q);
        mediaAndSidesAreKept(check, q);
        check.end();
    }

    /** Also when there are 8, since IllegalArgumentException is named first. */
    private static void wrongInputs(Check check, PrintQueue q) {
        Class<IllegalArgumentException> want = IllegalArgumentException.class;
        check.refused("printer(-1, 1)", want, () -> q.printer(-1, 1));
        check.refused("printer(8, 1)", want, () -> q.printer(8, 1));
        check.refused("printer(0, 0)", want, () -> q.printer(0, 0));
        check.refused("printer(0, 3)", want, () -> q.printer(0, 3));
        check.refused("printer(MIN, 1)", want, () -> q.printer(Integer.MIN_VALUE, 1));
        check.refused("printer(MAX, 1)", want, () -> q.printer(Integer.MAX_VALUE, 1));
        check.refused("printer(0, MIN)", want, () -> q.printer(0, Integer.MIN_VALUE));
        check.refused("printer(0, MAX)", want, () -> q.printer(0, Integer.MAX_VALUE));
    }

    private static void mediaAndSidesAreKept(Check check, PrintQueue q) {
        q.ticket(7, 2, 0);
        q.job(1, 2, 2, 0, 0);
        check.due("one side alone: take(1, 0)", 0, () -> q.take(1, 0));
        check.due("both sides: take(2, 0)", 1, () -> q.take(2, 0));
        check.due("its media was in: account(1, 2)", 0, () -> q.account(1, 2));
        q.fault(2);
        check.due("both sides: take(3, 0)", 1, () -> q.take(3, 0));
        check.due("another media was in: account(1, 2)", 1, () -> q.account(1, 2));
    }
}
