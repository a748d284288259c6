/**
 * Each exception that a call names, alone and together with each other that fits too: where several fit,
 * it is the one that the call names first.
 */
public final class EdgesOfExceptionsTest {
    private static final String SOME = """
            printer(0, 1); printer(0, 1); ticket(0, 1, 0); job(1, 3, 4, 0, 0); job(1, 3, 4, 0, 0)
            take(1, 10) = 1
            print(1, 2) = 2
            """;
    private static final String FULL = """
            8 x printer(0, 1) = 1..
            20 x ticket(0, 1, 0) = 1..
            60 x job(1, 1, 1, 0, 0) = 1..
            """;

    public static void main(String[] args) {
        Check check = new Check("edges of exceptions");
        printer(check);
        ticket(check);
        job(check);
        take(check);
        print(check);
        oneExceptionAlone(check);
        asks(check);
        split(check);
        check.end();
    }

    private static void printer(Check check) {
        Script.says(check, "IllegalArgumentException; UnsupportedOperationException when there are 8.", """
                printer(8, 1) ! IllegalArgument
                printer(0, 3) ! IllegalArgument
                printer(-1, 0) ! IllegalArgument
                8 x printer(7, 2) = 1..
                printer(7, 2) ! UnsupportedOperation
                printer(0, 1) ! UnsupportedOperation
                # both fit
                printer(8, 1) ! IllegalArgument; printer(-1, 1) ! IllegalArgument
                printer(0, 0) ! IllegalArgument; printer(0, 3) ! IllegalArgument
                printer(MIN, MIN) ! IllegalArgument; printer(MAX, MAX) ! IllegalArgument
                printer(0, 1) ! UnsupportedOperation
                """);
    }

    private static void ticket(Check check) {
        Script.says(check, "IllegalArgumentException; UnsupportedOperationException when there are 20.", """
                ticket(8, 1, 0) ! IllegalArgument
                ticket(0, 3, 0) ! IllegalArgument
                ticket(0, 1, 4) ! IllegalArgument
                ticket(-1, 0, -1) ! IllegalArgument
                20 x ticket(7, 2, 3) = 1..
                ticket(7, 2, 3) ! UnsupportedOperation
                ticket(0, 1, 0) ! UnsupportedOperation
                # both fit
                ticket(8, 1, 0) ! IllegalArgument; ticket(-1, 1, 0) ! IllegalArgument
                ticket(0, 0, 0) ! IllegalArgument; ticket(0, 3, 0) ! IllegalArgument
                ticket(0, 1, -1) ! IllegalArgument; ticket(0, 1, 4) ! IllegalArgument
                ticket(MIN, MIN, MIN) ! IllegalArgument; ticket(MAX, MAX, MAX) ! IllegalArgument
                ticket(0, 1, 0) ! UnsupportedOperation
                """);
    }

    private static void job(Check check) {
        String sentence = "NoSuchElementException; IllegalArgumentException when pages are not 1 .. 500, ..;"
                + " UnsupportedOperationException when there are 60.";
        Script.says(check, sentence, """
                # no ticket yet: alone, and with each wrong argument
                job(1, 1, 1, 0, 0) ! NoSuchElement; job(0, 1, 1, 0, 0) ! NoSuchElement
                job(1, 0, 1, 0, 0) ! NoSuchElement; job(1, 1, 0, 0, 0) ! NoSuchElement
                job(1, 1, 1, -1, 0) ! NoSuchElement; job(1, 1, 1, 0, -1) ! NoSuchElement
                ticket(0, 1, 0) = 1
                job(2, 501, 1, 0, 0) ! NoSuchElement; job(2, 1, 101, 0, 0) ! NoSuchElement
                job(2, 1, 1, 10, 0) ! NoSuchElement; job(2, 1, 1, 0, MIN) ! NoSuchElement
                job(0, 0, 0, 10, -1) ! NoSuchElement
                # the arguments alone
                job(1, 0, 1, 0, 0) ! IllegalArgument; job(1, 501, 1, 0, 0) ! IllegalArgument
                job(1, 1, 0, 0, 0) ! IllegalArgument; job(1, 1, 101, 0, 0) ! IllegalArgument
                job(1, 1, 1, -1, 0) ! IllegalArgument; job(1, 1, 1, 10, 0) ! IllegalArgument
                job(1, 1, 1, 0, -1) ! IllegalArgument; job(1, 0, 0, -1, -1) ! IllegalArgument
                job(1, 1, 1, 0, 0) = 1
                """);
        Script.says(check, sentence, FULL, """
                job(1, 1, 1, 0, 0) ! UnsupportedOperation; job(20, 500, 100, 9, MAX) ! UnsupportedOperation
                # no such ticket, and full
                job(0, 1, 1, 0, 0) ! NoSuchElement; job(21, 1, 1, 0, 0) ! NoSuchElement
                job(MIN, 1, 1, 0, 0) ! NoSuchElement; job(MAX, 1, 1, 0, 0) ! NoSuchElement
                # a wrong argument, and full
                job(1, 0, 1, 0, 0) ! IllegalArgument; job(20, 501, 1, 0, 0) ! IllegalArgument
                job(1, 1, 0, 0, 0) ! IllegalArgument; job(20, 1, 101, 0, 0) ! IllegalArgument
                job(1, 1, 1, -1, 0) ! IllegalArgument; job(20, 1, 1, 10, 0) ! IllegalArgument
                job(1, 1, 1, 0, -1) ! IllegalArgument; job(20, 1, 1, 0, MIN) ! IllegalArgument
                # all three
                job(0, 0, 1, 0, 0) ! NoSuchElement; job(21, 1, 101, 0, 0) ! NoSuchElement
                job(21, 1, 1, 10, 0) ! NoSuchElement; job(21, 1, 1, 0, -1) ! NoSuchElement
                """);
    }

    private static void take(Check check) {
        String sentence = "NoSuchElementException; IllegalArgumentException when t is before now;"
                + " IllegalStateException when it has a part.";
        Script.says(check, sentence, SOME, """
                # alone
                take(3, 10) ! NoSuchElement; take(0, 10) ! NoSuchElement
                take(2, 9) ! IllegalArgument; take(2, -1) ! IllegalArgument
                take(1, 10) ! IllegalState; take(1, 11) ! IllegalState; take(1, MAX) ! IllegalState
                # no such printer, and before now
                take(3, 9) ! NoSuchElement; take(0, 9) ! NoSuchElement; take(-1, MIN) ! NoSuchElement
                # before now, and a part
                take(1, 9) ! IllegalArgument; take(1, 0) ! IllegalArgument; take(1, MIN) ! IllegalArgument
                # nothing of it was done
                take(2, 10) = 2
                take(2, 10) ! IllegalState
                """);
        Script.says(check, sentence, """
                take(1, 0) ! NoSuchElement; take(1, -1) ! NoSuchElement
                printer(0, 1) = 1
                take(1, -1) ! IllegalArgument; take(2, -1) ! NoSuchElement
                take(1, 0) = 0
                # it took none, so it has none
                take(1, 0) = 0
                """);
    }

    private static void print(Check check) {
        Script.says(check, "come out of a printer: how many; 0 when it has no part. NoSuchElementException;"
                + " IllegalArgumentException.", SOME, """
                # alone
                print(3, 1) ! NoSuchElement; print(0, 1) ! NoSuchElement
                print(1, -1) ! IllegalArgument; print(1, 50001) ! IllegalArgument
                # without a part too
                print(2, -1) ! IllegalArgument; print(2, 50001) ! IllegalArgument
                # both
                print(3, -1) ! NoSuchElement; print(3, 50001) ! NoSuchElement
                print(0, -1) ! NoSuchElement; print(0, 50001) ! NoSuchElement
                print(MIN, MIN) ! NoSuchElement; print(MAX, MAX) ! NoSuchElement
                state(1, 1) = 2; account(1, 0) = 2
                print(1, 50000) = 10; print(2, 50000) = 0
                """);
    }

    private static void oneExceptionAlone(Check check) {
        Script.says(check, "0 when the printer has none. NoSuchElementException.", SOME, """
                fault(0) ! NoSuchElement; fault(3) ! NoSuchElement
                fault(2) = 0; fault(1) = 2
                """);
        Script.says(check, "what it was (1, or 0). NoSuchElementException.", SOME, """
                hold(0, true) ! NoSuchElement; hold(3, true) ! NoSuchElement; hold(3, false) ! NoSuchElement
                hold(1, true) = 0; hold(2, true) = 0
                """);
        Script.says(check, "0 for one that is done or cancelled already. NoSuchElementException.", SOME, """
                cancel(0) ! NoSuchElement; cancel(3) ! NoSuchElement
                cancel(1) = 1; cancel(2) = 1
                """);
        Script.says(check, "Why no part of a job is taken: .. NoSuchElementException.", SOME, """
                reason(0) ! NoSuchElement; reason(3) ! NoSuchElement
                reason(1) = 0; reason(2) = 5
                """);
        Script.says(check, "The bound of likeness, 0 .. 100: what it was. IllegalArgumentException.", """
                like(-1) ! IllegalArgument; like(101) ! IllegalArgument
                like(0) = 3; like(100) = 0
                """);
    }

    private static void asks(Check check) {
        Script.says(check, "4 whether it is held. NoSuchElementException; IndexOutOfBoundsException.", SOME, """
                state(0, 0) ! NoSuchElement; state(3, 4) ! NoSuchElement
                state(1, -1) ! IndexOutOfBounds; state(2, 5) ! IndexOutOfBounds
                state(0, -1) ! NoSuchElement; state(3, -1) ! NoSuchElement
                state(0, 5) ! NoSuchElement; state(3, 5) ! NoSuchElement
                state(MIN, MIN) ! NoSuchElement; state(MAX, MAX) ! NoSuchElement
                """);
        Script.says(check, "i = -1: how many. NoSuchElementException; IndexOutOfBoundsException.", SOME, """
                doubled(0, -1) ! NoSuchElement; doubled(3, -1) ! NoSuchElement
                doubled(1, -2) ! IndexOutOfBounds; doubled(1, 0) ! IndexOutOfBounds
                fault(1) = 2
                doubled(1, -2) ! IndexOutOfBounds; doubled(1, 0) = 1002; doubled(1, 1) ! IndexOutOfBounds
                doubled(2, 0) ! IndexOutOfBounds
                doubled(0, -2) ! NoSuchElement; doubled(3, -2) ! NoSuchElement
                doubled(0, 0) ! NoSuchElement; doubled(3, 1) ! NoSuchElement
                doubled(MIN, MIN) ! NoSuchElement; doubled(MAX, MAX) ! NoSuchElement
                """);
        Script.says(check, "3 doubled pages. NoSuchElementException; IndexOutOfBoundsException.", SOME, """
                account(0, 0) ! NoSuchElement; account(2, 3) ! NoSuchElement
                account(1, -1) ! IndexOutOfBounds; account(1, 4) ! IndexOutOfBounds
                account(0, -1) ! NoSuchElement; account(2, -1) ! NoSuchElement
                account(0, 4) ! NoSuchElement; account(2, 4) ! NoSuchElement
                account(MIN, MIN) ! NoSuchElement; account(MAX, MAX) ! NoSuchElement
                """);
    }

    private static void split(Check check) {
        Script.says(check, "0 when there is no such part, or copies are below 1. NoSuchElementException (job, printer).", SOME, """
                # the job, the printer, both
                split(0, 1, 1) ! NoSuchElement; split(3, 1, 1) ! NoSuchElement
                split(2, 0, 1) ! NoSuchElement; split(2, 3, 1) ! NoSuchElement
                split(3, 3, 1) ! NoSuchElement; split(0, 0, 1) ! NoSuchElement
                # and copies for which it would answer 0
                split(3, 1, 0) ! NoSuchElement; split(2, 3, 0) ! NoSuchElement; split(3, 3, -1) ! NoSuchElement
                split(3, 1, 4) ! NoSuchElement; split(2, 3, 4) ! NoSuchElement; split(2, 0, MIN) ! NoSuchElement
                # and no part that waits
                split(1, 3, 1) ! NoSuchElement; split(1, 0, 1) ! NoSuchElement
                split(1, 2, 1) = 0; split(2, 2, 0) = 0; split(2, 2, 4) = 0; split(2, 2, 3) = 1
                """);
        Script.says(check, "NoSuchElementException (job, printer).", """
                ticket(0, 1, 0) = 1; job(1, 1, 2, 0, 0) = 1
                # no printer yet
                split(1, 1, 1) ! NoSuchElement; split(1, 0, 1) ! NoSuchElement
                printer(0, 1) = 1
                split(1, 1, 1) = 1
                """);
    }
}
