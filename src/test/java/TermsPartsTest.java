/** The sentences of 'Terms' on printers, tickets, jobs, parts, which printer fits, and the time. */
public final class TermsPartsTest {
    public static void main(String[] args) {
        Check check = new Check("terms, parts and time");
        numbers(check);
        nothingThereYet(check);
        allFull(check);
        onePartAtFirst(check);
        partsForOneAlone(check);
        waitAtPrinterOver(check);
        partsAreNumbered(check);
        fits(check);
        time(check);
        mayBeTaken(check);
        check.end();
    }

    private static void numbers(Check check) {
        Script.says(check, "PRINTERS have numbers 1, 2, .. (8 at most)", """
                printer(0, 1) = 1; printer(0, 1) = 2
                # one that is refused has no number
                printer(8, 1) ! IllegalArgument
                printer(0, 1) = 3
                take(3, 0) = 0; take(4, 0) ! NoSuchElement
                5 x printer(0, 1) = 4..
                take(8, 0) = 0; take(9, 0) ! NoSuchElement
                2 x printer(0, 1) ! UnsupportedOperation
                take(8, 0) = 0; take(9, 0) ! NoSuchElement
                """);
        Script.says(check, "TICKETS 1, 2, .. (20 at most)", """
                ticket(0, 1, 0) = 1; ticket(0, 1, 0) = 2
                ticket(0, 1, 4) ! IllegalArgument
                ticket(0, 1, 0) = 3
                account(3, 0) = 0; account(4, 0) ! NoSuchElement
                17 x ticket(0, 1, 0) = 4..
                account(20, 0) = 0; account(21, 0) ! NoSuchElement
                2 x ticket(0, 1, 0) ! UnsupportedOperation
                account(20, 0) = 0; account(21, 0) ! NoSuchElement
                job(20, 1, 1, 0, 0) = 1; job(21, 1, 1, 0, 0) ! NoSuchElement
                """);
        Script.says(check, "JOBS 1, 2, .. (60 at most)", """
                ticket(0, 1, 0)
                job(1, 1, 1, 0, 0) = 1; job(1, 1, 1, 0, 0) = 2
                job(1, 501, 1, 0, 0) ! IllegalArgument
                job(1, 1, 1, 0, 0) = 3
                state(3, 0) = 0; state(4, 0) ! NoSuchElement
                57 x job(1, 1, 1, 0, 0) = 4..
                state(60, 0) = 0; state(61, 0) ! NoSuchElement
                2 x job(1, 1, 1, 0, 0) ! UnsupportedOperation
                state(60, 0) = 0; state(61, 0) ! NoSuchElement
                # cancelled ones count among the 60
                cancel(1) = 1; cancel(60) = 1
                job(1, 1, 1, 0, 0) ! UnsupportedOperation
                """);
    }

    private static void nothingThereYet(Check check) {
        Script.says(check, "No printers, tickets, jobs", """
                take(1, 0) ! NoSuchElement; print(1, 1) ! NoSuchElement; fault(1) ! NoSuchElement
                account(1, 0) ! NoSuchElement; job(1, 1, 1, 0, 0) ! NoSuchElement
                hold(1, true) ! NoSuchElement; cancel(1) ! NoSuchElement; state(1, 0) ! NoSuchElement
                doubled(1, -1) ! NoSuchElement; reason(1) ! NoSuchElement; split(1, 1, 1) ! NoSuchElement
                # a printer, but no ticket and no job
                printer(0, 1) = 1
                take(1, 0) = 0; print(1, 1) = 0; fault(1) = 0
                account(1, 0) ! NoSuchElement; job(1, 1, 1, 0, 0) ! NoSuchElement
                state(1, 0) ! NoSuchElement; split(1, 1, 1) ! NoSuchElement
                # a ticket, but no job
                ticket(0, 1, 0) = 1
                account(1, 0) = 0; account(1, 1) = 0; account(1, 2) = 0; account(1, 3) = 0
                take(1, 0) = 0; hold(1, false) ! NoSuchElement; reason(1) ! NoSuchElement
                doubled(1, 0) ! NoSuchElement; cancel(1) ! NoSuchElement
                job(1, 1, 1, 0, 0) = 1
                state(1, 0) = 0
                """);
        Script.says(check, "No printers", """
                ticket(0, 1, 0) = 1; job(1, 2, 2, 0, 0) = 1
                reason(1) = 3; state(1, 0) = 0; state(1, 1) = 0; state(1, 2) = 0; state(1, 3) = 1; state(1, 4) = 0
                doubled(1, -1) = 0; hold(1, true) = 0; hold(1, false) = 1; cancel(1) = 1; reason(1) = 0
                """);
    }

    private static void allFull(Check check) {
        String full = """
                8 x printer(0, 1) = 1..
                20 x ticket(0, 1, 0) = 1..
                30 x job(1, 1, 1, 1, 0) = 1..
                30 x job(20, 1, 1, 0, 0) = 31..
                """;
        Script.says(check, "8 at most .. 20 at most .. 60 at most", full, """
                # each printer has a part of its own
                take(1, 0) = 1; take(2, 0) = 2; take(3, 0) = 3; take(4, 0) = 4
                take(5, 0) = 5; take(6, 0) = 6; take(7, 0) = 7; take(8, 0) = 8
                reason(9) = 4; reason(60) = 4
                take(8, 0) ! IllegalState
                print(8, 9) = 1; reason(9) = 5; reason(60) = 5
                take(8, 0) = 9; fault(8) = 1; cancel(9) = 1; take(8, 0) = 10
                cancel(8) = 0; cancel(7) = 1; print(7, 1) = 0
                printer(0, 1) ! UnsupportedOperation; ticket(0, 1, 0) ! UnsupportedOperation
                job(20, 1, 1, 0, 0) ! UnsupportedOperation
                hold(60, true) = 0; split(60, 8, 1) = 0; state(60, 4) = 1
                account(1, 0) = 1; account(20, 0) = 0
                """);
        Script.says(check, "8 at most .. 20 at most .. 60 at most", full, """
                cancel(1) = 1; cancel(30) = 1; cancel(60) = 1; hold(2, true) = 0
                take(8, 0) = 3; print(8, 1) = 1; state(3, 0) = 2; state(60, 0) = 3
                # none of those that ended makes room
                job(1, 1, 1, 0, 0) ! UnsupportedOperation
                """);
    }

    private static void onePartAtFirst(Check check) {
        String sentence = "At first a job has one part of all copies, for any.";
        for (int printer = 1; printer <= 3; printer++) {
            Script.says(check, sentence, """
                    3 x printer(0, 1)
                    ticket(0, 1, 0); job(1, 3, 4, 0, 0) = 1
                    state(1, 3) = 1
                    take(%1$d, 0) = 1
                    reason(1) = 0
                    print(%1$d, 50000) = 12
                    state(1, 0) = 2; state(1, 3) = 1; state(1, 2) = 4
                    """.formatted(printer));
        }
    }

    private static void partsForOneAlone(Check check) {
        Script.says(check, "A PART of a job is a number of its copies, for any printer or for one alone.", """
                3 x printer(0, 1)
                ticket(0, 1, 0); job(1, 2, 6, 0, 0)
                split(1, 2, 2) = 1
                # 4 copies for any, 2 for printer 2
                take(3, 0) = 1; print(3, 50000) = 8
                take(3, 0) = 0; take(1, 0) = 0
                reason(1) = 5
                take(2, 0) = 1; print(2, 50000) = 4
                state(1, 2) = 6; state(1, 0) = 2
                """);
        Script.says(check, "for one alone: behind a fault too", """
                2 x printer(0, 1)
                ticket(0, 1, 0); job(1, 2, 3, 0, 0)
                split(1, 2, 1) = 1
                take(1, 0) = 1; print(1, 50000) = 4
                take(2, 0) = 1; print(2, 1) = 1; fault(2) = 1
                take(1, 0) = 0; take(2, 0) = 1; print(2, 50000) = 2
                state(1, 0) = 2
                """);
    }

    private static void waitAtPrinterOver(Check check) {
        Script.says(check, "Parts WAIT, or are at a printer, or are over.", """
                2 x printer(0, 1)
                ticket(0, 1, 0); job(1, 2, 3, 0, 0)
                state(1, 0) = 0; reason(1) = 5
                take(1, 0) = 1
                state(1, 0) = 1; reason(1) = 0; take(2, 0) = 0; split(1, 2, 1) = 0
                fault(1) = 1
                state(1, 0) = 0; reason(1) = 5; split(1, 2, 1) = 1
                take(1, 0) = 1; take(2, 0) = 1
                print(1, 4) = 4
                state(1, 0) = 1; reason(1) = 0; take(1, 0) = 0
                print(2, 2) = 2
                state(1, 0) = 2; reason(1) = 0; take(2, 0) = 0; split(1, 2, 1) = 0; fault(1) = 0; fault(2) = 0
                """);
    }

    private static void partsAreNumbered(Check check) {
        String sentence = "A job's parts are numbered in the order in which they came.";
        Script.says(check, sentence, """
                2 x printer(0, 1)
                ticket(0, 1, 0); job(1, 1, 10, 0, 0)
                split(1, 2, 2) = 1; split(1, 2, 3) = 1; split(1, 2, 1) = 1
                state(1, 3) = 4
                take(2, 0) = 1; print(2, 50000) = 4
                take(2, 0) = 1; print(2, 50000) = 2
                take(2, 0) = 1; print(2, 50000) = 3
                take(2, 0) = 1; print(2, 50000) = 1
                take(2, 0) = 0; state(1, 3) = 4; state(1, 0) = 2
                """);
        Script.says(check, sentence + " (one that waits again keeps its number)", """
                2 x printer(0, 1)
                ticket(0, 1, 0); job(1, 1, 10, 0, 0)
                split(1, 2, 2) = 1; split(1, 2, 3) = 1
                take(1, 0) = 1
                take(2, 0) = 1; print(2, 1) = 1; fault(2) = 1
                fault(1) = 1
                take(2, 0) = 1; print(2, 50000) = 5
                take(2, 0) = 1; print(2, 50000) = 1
                take(2, 0) = 1; print(2, 50000) = 3
                """);
    }

    private static void fits(Check check) {
        String sides = "A printer FITS a part, if it can print on as many sides as the ticket says";
        Script.says(check, sides, """
                printer(0, 1); printer(0, 2); ticket(0, 1, 0); ticket(0, 2, 0)
                job(1, 1, 1, 0, 0)
                take(1, 0) = 1; fault(1) = 1; take(2, 0) = 1; fault(2) = 1; cancel(1) = 1
                job(2, 1, 1, 0, 0)
                take(1, 0) = 0; take(2, 0) = 2
                """);
        Script.says(check, sides + " (the media need not be in)", """
                printer(0, 1); ticket(7, 1, 0); job(1, 1, 1, 0, 0)
                reason(1) = 5; take(1, 0) = 1
                """);
        Script.says(check, "and it is the one, if the part is for one alone", """
                3 x printer(0, 2)
                ticket(0, 1, 0); job(1, 1, 3, 0, 0)
                split(1, 2, 2) = 1
                take(1, 0) = 1
                take(3, 0) = 0; take(2, 0) = 1
                """);
        Script.says(check, "as many sides as the ticket says, and it is the one: both", """
                printer(0, 1); printer(0, 2); ticket(0, 2, 0); job(1, 1, 3, 0, 0)
                split(1, 1, 1) = 1
                take(1, 0) = 0
                take(2, 0) = 1; print(2, 50000) = 2
                # the part for printer 1, which prints on one side
                take(1, 0) = 0; take(2, 0) = 0; reason(1) = 3; state(1, 0) = 0
                """);
    }

    private static void time(Check check) {
        Script.says(check, "THE TIME never goes back (at first 0).", """
                2 x printer(0, 1)
                ticket(0, 1, 0)
                job(1, 1, 1, 0, 0) = 1; job(1, 1, 1, 0, 1) = 2; job(1, 1, 1, 0, MAX) = 3
                reason(1) = 5; reason(2) = 2; reason(3) = 2
                take(1, MIN) ! IllegalArgument; take(1, -1) ! IllegalArgument
                take(1, 0) = 1; print(1, 1) = 1; take(1, 0) = 0
                take(1, 1) = 2; reason(3) = 2
                # it is so for all printers
                take(2, 0) ! IllegalArgument; take(2, 1) = 0
                print(1, 1) = 1
                take(1, 0) ! IllegalArgument
                take(1, 9223372036854775806) = 0; reason(3) = 2
                take(2, 9223372036854775805) ! IllegalArgument
                take(2, MAX) = 3
                take(1, MAX) = 0; take(1, 9223372036854775806) ! IllegalArgument; take(1, MIN) ! IllegalArgument
                """);
        Script.says(check, "It is t now: also when there is none to take", """
                printer(0, 1)
                take(1, 7) = 0
                take(1, 6) ! IllegalArgument; take(1, 7) = 0
                ticket(0, 1, 0); job(1, 1, 1, 0, 7) = 1
                reason(1) = 5; take(1, 7) = 1
                """);
        Script.says(check, "It is t now: a job may come with a time that was", """
                printer(0, 1); ticket(0, 1, 0); take(1, 100) = 0
                job(1, 1, 1, 0, 0) = 1; job(1, 1, 1, 0, 99) = 2; job(1, 1, 1, 0, 100) = 3; job(1, 1, 1, 0, 101) = 4
                reason(1) = 5; reason(2) = 5; reason(3) = 5; reason(4) = 2
                """);
        Script.says(check, "A call that throws changes nothing: the time", """
                2 x printer(0, 1)
                ticket(0, 1, 0); job(1, 1, 2, 0, 5); job(1, 1, 1, 0, 8)
                take(1, 5) = 1
                take(1, 9) ! IllegalState; take(3, 9) ! NoSuchElement; take(1, 4) ! IllegalArgument
                reason(2) = 2; take(2, 5) = 0
                """);
    }

    private static void mayBeTaken(Check check) {
        String sentence = "A part may be TAKEN by a printer, if it waits, its job is not held, and its time"
                + " is not later than now, and the printer fits.";
        String two = """
                printer(0, 1); printer(0, 2); ticket(0, 1, 0); ticket(0, 2, 0)
                """;
        Script.says(check, sentence + " (at a printer)", two, """
                job(1, 1, 1, 0, 0); take(1, 0) = 1; take(2, 0) = 0
                """);
        Script.says(check, sentence + " (over)", two, """
                job(1, 1, 1, 0, 0); take(1, 0) = 1; print(1, 1) = 1; take(1, 0) = 0
                """);
        Script.says(check, sentence + " (cancelled)", two, """
                job(1, 1, 1, 0, 0); cancel(1) = 1; take(1, 0) = 0
                """);
        Script.says(check, sentence + " (held)", two, """
                job(1, 1, 1, 0, 0); hold(1, true) = 0; take(1, 0) = 0; hold(1, false) = 1; take(1, 0) = 1
                """);
        Script.says(check, sentence + " (later)", two, """
                job(1, 1, 1, 0, 3); take(1, 2) = 0; take(1, 3) = 1
                """);
        Script.says(check, sentence + " (does not fit)", two, """
                job(2, 1, 1, 0, 0); take(1, 0) = 0; take(2, 0) = 1
                """);
        Script.says(check, sentence + " (all but one of four)", two, """
                job(2, 1, 1, 0, 3); hold(1, true) = 0
                take(1, 2) = 0; take(2, 2) = 0; hold(1, false) = 1; take(2, 2) = 0; take(1, 3) = 0; take(2, 3) = 1
                """);
    }
}
