import java.util.NoSuchElementException;

/**
 * For each argument of each call: the last value that is allowed and the first that is not, at both ends of
 * its range, and the least and the greatest int or long.
 */
public final class EdgesOfRangesTest {
    private static final Class<IllegalArgumentException> ARGUMENT = IllegalArgumentException.class;
    private static final Class<NoSuchElementException> NONE = NoSuchElementException.class;
    private static final Class<IndexOutOfBoundsException> INDEX = IndexOutOfBoundsException.class;

    public static void main(String[] args) {
        Check check = new Check("edges of ranges");
        printer(check);
        ticket(check);
        jobOutside(check);
        jobInside(check);
        jobTimes(check);
        takeTimes(check);
        print(check);
        printerNumbers(check);
        ticketNumbers(check);
        jobNumbers(check);
        stateAndAccount(check);
        doubled(check);
        splitCopies(check);
        like(check);
        check.end();
    }

    /** Two printers, three tickets, four jobs; printer 1 has a part of job 1. */
    private static PrintQueue queue() {
        PrintQueue q = new PrintQueue();
        q.printer(0, 1);
        q.printer(0, 2);
        q.ticket(0, 1, 0);
        q.ticket(0, 1, 0);
        q.ticket(0, 1, 0);
        for (int i = 0; i < 4; i++) {
            q.job(1, 4, 6, 0, 0);
        }
        q.take(1, 0);
        return q;
    }

    private static void printer(Check check) {
        check.sentence("the MEDIA that is in (0 .. 7), SIDES (1, or 2: it can print on both)");
        PrintQueue q = new PrintQueue();
        check.refusedOutside("printer(?, 1)", 0, 7, ARGUMENT, media -> q.printer(media, 1));
        check.refusedOutside("printer(?, 2)", 0, 7, ARGUMENT, media -> q.printer(media, 2));
        check.refusedOutside("printer(0, ?)", 1, 2, ARGUMENT, sides -> q.printer(0, sides));
        check.refusedOutside("printer(7, ?)", 1, 2, ARGUMENT, sides -> q.printer(7, sides));
        check.refusedOutside("printer(?, ?)", 0, 7, ARGUMENT, both -> q.printer(both, both));
        for (int media = 0; media <= 7; media++) {
            for (int sides = 1; sides <= 2; sides++) {
                printerIsKept(check, media, sides);
            }
        }
    }

    /** Shown by a job of the same media (no change), and by one that wants both sides. */
    private static void printerIsKept(Check check, int media, int sides) {
        PrintQueue q = new PrintQueue();
        String made = "printer(" + media + ", " + sides + ")";
        check.due(made, 1, () -> q.printer(media, sides));
        q.ticket(media, 1, 0);
        q.ticket(media, 2, 0);
        q.job(1, 1, 1, 9, 0);
        q.job(2, 1, 1, 0, 0);
        check.due(made + ": take(1, 0) of sides 1", 1, () -> q.take(1, 0));
        check.due(made + ": account(1, 2) of its own media", 0, () -> q.account(1, 2));
        q.print(1, 1);
        check.due(made + ": take(1, 0) of sides 2", sides == 2 ? 2 : 0, () -> q.take(1, 0));
        check.due(made + ": reason(2)", sides == 2 ? 0 : 3, () -> q.reason(2));
    }

    private static void ticket(Check check) {
        check.sentence("TICKETS 1, 2, .. (20 at most) say media, sides (1, 2), finish (0 .. 3)");
        PrintQueue q = new PrintQueue();
        check.refusedOutside("ticket(?, 1, 0)", 0, 7, ARGUMENT, media -> q.ticket(media, 1, 0));
        check.refusedOutside("ticket(?, 2, 3)", 0, 7, ARGUMENT, media -> q.ticket(media, 2, 3));
        check.refusedOutside("ticket(0, ?, 0)", 1, 2, ARGUMENT, sides -> q.ticket(0, sides, 0));
        check.refusedOutside("ticket(7, ?, 3)", 1, 2, ARGUMENT, sides -> q.ticket(7, sides, 3));
        check.refusedOutside("ticket(0, 1, ?)", 0, 3, ARGUMENT, finish -> q.ticket(0, 1, finish));
        check.refusedOutside("ticket(7, 2, ?)", 0, 3, ARGUMENT, finish -> q.ticket(7, 2, finish));
        for (int media = 0; media <= 7; media++) {
            for (int sides = 1; sides <= 2; sides++) {
                for (int finish = 0; finish <= 3; finish++) {
                    ticketIsKept(check, media, sides, finish);
                }
            }
        }
    }

    private static void ticketIsKept(Check check, int media, int sides, int finish) {
        PrintQueue q = new PrintQueue();
        String made = "ticket(" + media + ", " + sides + ", " + finish + ")";
        check.due(made, 1, () -> q.ticket(media, sides, finish));
        q.printer(media, 1);
        q.printer(7 - media, 2);
        q.job(1, 2, 1, 0, 0);
        check.due(made + ": take(1, 0)", sides == 1 ? 1 : 0, () -> q.take(1, 0));
        check.due(made + ": no change", 0, () -> q.account(1, 2));
        q.fault(1);
        check.due(made + ": take(2, 0)", 1, () -> q.take(2, 0));
        check.due(made + ": a change", 1, () -> q.account(1, 2));
        q.print(2, 2);
        check.due(made + ": sheets of 2 pages", 3 - sides, () -> q.account(1, 1));
    }

    private static void jobOutside(Check check) {
        check.sentence("IllegalArgumentException when pages are not 1 .. 500, copies 1 .. 100, rank 0 .. 9, or t is below 0");
        PrintQueue q = queue();
        check.refusedOutside("job(1, ?, 1, 0, 0)", 1, 500, ARGUMENT, pages -> q.job(1, pages, 1, 0, 0));
        check.refusedOutside("job(3, ?, 100, 9, 5)", 1, 500, ARGUMENT, pages -> q.job(3, pages, 100, 9, 5));
        check.refusedOutside("job(1, 1, ?, 0, 0)", 1, 100, ARGUMENT, copies -> q.job(1, 1, copies, 0, 0));
        check.refusedOutside("job(3, 500, ?, 9, 5)", 1, 100, ARGUMENT, copies -> q.job(3, 500, copies, 9, 5));
        check.refusedOutside("job(1, 1, 1, ?, 0)", 0, 9, ARGUMENT, rank -> q.job(1, 1, 1, rank, 0));
        check.refusedOutside("job(3, 500, 100, ?, 5)", 0, 9, ARGUMENT, rank -> q.job(3, 500, 100, rank, 5));
        long[] before = {-1, -2, -256, -65536, -(1L << 31), -(1L << 32), -(1L << 32) + 1, Long.MIN_VALUE + 1, Long.MIN_VALUE};
        for (long t : before) {
            check.refused("job(1, 1, 1, 0, " + t + ")", ARGUMENT, () -> q.job(1, 1, 1, 0, t));
            check.refused("job(3, 500, 100, 9, " + t + ")", ARGUMENT, () -> q.job(3, 500, 100, 9, t));
        }
        check.due("no job was made", 5, () -> q.job(1, 1, 1, 0, 0));
    }

    private static void jobInside(Check check) {
        check.sentence("a ticket, pages in a copy, copies, a rank (0 .. 9), a time");
        int[] manyPages = {1, 2, 127, 128, 255, 256, 499, 500};
        int[] manyCopies = {1, 2, 99, 100};
        for (int pages : manyPages) {
            for (int copies : manyCopies) {
                jobIsKept(check, pages, copies);
            }
        }
        for (int rank = 0; rank < 9; rank++) {
            int lower = rank;
            PrintQueue q = new PrintQueue();
            q.printer(0, 1);
            q.ticket(0, 1, 0);
            check.due("job(1, 1, 1, " + rank + ", 0)", 1, () -> q.job(1, 1, 1, lower, 0));
            check.due("job(1, 1, 1, " + (rank + 1) + ", 0)", 2, () -> q.job(1, 1, 1, lower + 1, 0));
            check.due("the greater rank of " + rank + " and " + (rank + 1), 2, () -> q.take(1, 0));
        }
    }

    private static void jobIsKept(Check check, int pages, int copies) {
        PrintQueue q = new PrintQueue();
        q.printer(0, 1);
        q.ticket(0, 1, 0);
        String made = "job(1, " + pages + ", " + copies + ", 0, 0)";
        int all = pages * copies;
        check.due(made, 1, () -> q.job(1, pages, copies, 0, 0));
        check.due(made + ": take(1, 0)", 1, () -> q.take(1, 0));
        check.due(made + ": all but the last page", all - 1, () -> q.print(1, all - 1));
        check.due(made + ": it prints", 1, () -> q.state(1, 0));
        check.due(made + ": copies but the last", copies - 1, () -> q.state(1, 2));
        check.due(made + ": the last page", 1, () -> q.print(1, 50000));
        check.due(made + ": it is done", 2, () -> q.state(1, 0));
        check.due(made + ": pages that count", all, () -> q.state(1, 1));
        check.due(made + ": copies that count", copies, () -> q.state(1, 2));
    }

    private static void jobTimes(Check check) {
        check.sentence("its time is not later than now");
        long[] times = {1, 2, 127, 128, 255, 256, 65535, 65536, Integer.MAX_VALUE, 1L << 31, (1L << 32) - 1,
            1L << 32, (1L << 32) + 1, Long.MAX_VALUE - 1, Long.MAX_VALUE};
        for (long t : times) {
            PrintQueue q = new PrintQueue();
            q.printer(0, 1);
            q.ticket(0, 1, 0);
            check.due("job(1, 1, 1, 0, " + t + ")", 1, () -> q.job(1, 1, 1, 0, t));
            check.due("reason(1) at 0", 2, () -> q.reason(1));
            check.due("take(1, 0), before " + t, 0, () -> q.take(1, 0));
            check.due("take(1, " + (t - 1) + ")", 0, () -> q.take(1, t - 1));
            check.due("reason(1) at " + (t - 1), 2, () -> q.reason(1));
            check.due("take(1, " + t + ")", 1, () -> q.take(1, t));
        }
    }

    private static void takeTimes(Check check) {
        check.sentence("IllegalArgumentException when t is before now");
        long[] times = {0, 1, 255, 256, 65536, Integer.MAX_VALUE, 1L << 31, 1L << 32, Long.MAX_VALUE - 1, Long.MAX_VALUE};
        for (long now : times) {
            PrintQueue q = new PrintQueue();
            q.printer(0, 1);
            q.printer(0, 1);
            check.due("take(1, " + now + ")", 0, () -> q.take(1, now));
            long[] before = {Long.MIN_VALUE, -(1L << 32), -(1L << 31), -1, now - 1};
            for (long t : before) {
                check.refused("take(1, " + t + ") at " + now, ARGUMENT, () -> q.take(1, t));
                check.refused("take(2, " + t + ") at " + now, ARGUMENT, () -> q.take(2, t));
            }
            check.due("take(1, " + now + ") again", 0, () -> q.take(1, now));
            check.due("take(2, " + now + ")", 0, () -> q.take(2, now));
        }
    }

    private static void print(Check check) {
        check.sentence("So many pages (0 .. 50000), or all that are left of its part, come out of a printer");
        PrintQueue q = queue();
        for (int printer = 1; printer <= 2; printer++) {
            int by = printer;
            check.refusedOutside("print(" + by + ", ?)", 0, 50000, ARGUMENT, pages -> q.print(by, pages));
        }
        check.due("without a part: print(2, 0)", 0, () -> q.print(2, 0));
        check.due("without a part: print(2, 50000)", 0, () -> q.print(2, 50000));
        check.due("print(1, 0)", 0, () -> q.print(1, 0));
        check.due("print(1, 1)", 1, () -> q.print(1, 1));
        check.due("print(1, 50000) of 23 pages", 23, () -> q.print(1, 50000));
        int[] manyPages = {1, 2, 127, 128, 255, 256, 32767, 32768, 49999, 50000};
        for (int pages : manyPages) {
            PrintQueue most = new PrintQueue();
            most.printer(0, 1);
            most.ticket(0, 1, 0);
            most.job(1, 500, 100, 0, 0);
            most.take(1, 0);
            check.due("print(1, " + pages + ") of 50000", pages, () -> most.print(1, pages));
            check.due("then print(1, 50000)", 50000 - pages, () -> most.print(1, 50000));
            check.due("and it is done", 2, () -> most.state(1, 0));
        }
    }

    private static void printerNumbers(Check check) {
        check.sentence("NoSuchElementException: there is no such printer, ticket, job");
        PrintQueue q = queue();
        check.refusedOutside("take(?, 0)", 1, 2, NONE, printer -> q.take(printer, 0));
        check.refusedOutside("print(?, 1)", 1, 2, NONE, printer -> q.print(printer, 1));
        check.refusedOutside("fault(?)", 1, 2, NONE, q::fault);
        check.refusedOutside("split(2, ?, 1)", 1, 2, NONE, printer -> q.split(2, printer, 1));
        check.due("the first: print(1, 1)", 1, () -> q.print(1, 1));
        check.due("the last: take(2, 0)", 2, () -> q.take(2, 0));
        check.due("the first: split(3, 1, 1)", 1, () -> q.split(3, 1, 1));
        check.due("the last: split(3, 2, 1)", 1, () -> q.split(3, 2, 1));
        check.due("the first: fault(1)", 1, () -> q.fault(1));
        check.due("the last: fault(2)", 1, () -> q.fault(2));
    }

    private static void ticketNumbers(Check check) {
        check.sentence("NoSuchElementException: there is no such printer, ticket, job");
        PrintQueue q = queue();
        check.refusedOutside("job(?, 1, 1, 0, 0)", 1, 3, NONE, ticket -> q.job(ticket, 1, 1, 0, 0));
        check.refusedOutside("account(?, 0)", 1, 3, NONE, ticket -> q.account(ticket, 0));
        check.refusedOutside("account(?, 3)", 1, 3, NONE, ticket -> q.account(ticket, 3));
        for (int ticket = 1; ticket <= 3; ticket++) {
            int of = ticket;
            check.due("job(" + of + ", 1, 1, 0, 0)", 4 + of, () -> q.job(of, 1, 1, 0, 0));
            check.due("account(" + of + ", 0)", 0, () -> q.account(of, 0));
        }
    }

    private static void jobNumbers(Check check) {
        check.sentence("NoSuchElementException: there is no such printer, ticket, job");
        PrintQueue q = queue();
        check.refusedOutside("hold(?, true)", 1, 4, NONE, job -> q.hold(job, true));
        check.refusedOutside("hold(?, false)", 1, 4, NONE, job -> q.hold(job, false));
        check.refusedOutside("cancel(?)", 1, 4, NONE, q::cancel);
        check.refusedOutside("state(?, 0)", 1, 4, NONE, job -> q.state(job, 0));
        check.refusedOutside("doubled(?, -1)", 1, 4, NONE, job -> q.doubled(job, -1));
        check.refusedOutside("reason(?)", 1, 4, NONE, q::reason);
        check.refusedOutside("split(?, 1, 1)", 1, 4, NONE, job -> q.split(job, 1, 1));
        for (int job = 1; job <= 4; job++) {
            int of = job;
            check.due("state(" + of + ", 0)", of == 1 ? 1 : 0, () -> q.state(of, 0));
            check.due("reason(" + of + ")", of == 1 ? 0 : 5, () -> q.reason(of));
            check.due("doubled(" + of + ", -1)", 0, () -> q.doubled(of, -1));
            check.due("split(" + of + ", 1, 1)", of == 1 ? 0 : 1, () -> q.split(of, 1, 1));
            check.due("hold(" + of + ", true)", 0, () -> q.hold(of, true));
            check.due("cancel(" + of + ")", of == 1 ? 1 : 2, () -> q.cancel(of));
        }
    }

    private static void stateAndAccount(Check check) {
        PrintQueue q = queue();
        check.sentence("Of a job: 0 what it is, .. 4 whether it is held. NoSuchElementException; IndexOutOfBoundsException.");
        check.refusedOutside("state(1, ?)", 0, 4, INDEX, what -> q.state(1, what));
        check.refusedOutside("state(4, ?)", 0, 4, INDEX, what -> q.state(4, what));
        int[] wanted = {1, 5, 1, 1, 0};
        q.print(1, 5);
        for (int what = 0; what <= 4; what++) {
            int of = what;
            check.due("state(1, " + of + ")", wanted[of], () -> q.state(1, of));
        }
        check.sentence("Of a ticket: 0 pages that came out, .. 3 doubled pages. NoSuchElementException; IndexOutOfBoundsException.");
        check.refusedOutside("account(1, ?)", 0, 3, INDEX, what -> q.account(1, what));
        check.refusedOutside("account(3, ?)", 0, 3, INDEX, what -> q.account(3, what));
        q.fault(1);
        int[] accounts = {5, 5, 0, 1};
        for (int what = 0; what <= 3; what++) {
            int of = what;
            check.due("account(1, " + of + ")", accounts[of], () -> q.account(1, of));
        }
    }

    private static void doubled(Check check) {
        check.sentence("The i-th doubled page of a job (from 0); i = -1: how many");
        PrintQueue q = queue();
        for (int count = 0; count <= 3; count++) {
            int many = count;
            check.due("how many of " + many, many, () -> q.doubled(1, -1));
            check.refusedOutside("doubled(1, ?) of " + many, -1, many - 1, INDEX, i -> q.doubled(1, i));
            for (int i = 0; i < many; i++) {
                int at = i;
                check.due("doubled(1, " + at + ") of " + many, 1000 * (at + 1) + at + 1, () -> q.doubled(1, at));
            }
            // To page 1 of copy 1, then to page 2 of copy 2, to page 3 of copy 3.
            q.print(1, many == 0 ? 1 : 6);
            q.fault(1);
            q.take(1, 0);
        }
        check.refusedOutside("of another job: doubled(2, ?)", -1, -1, INDEX, i -> q.doubled(2, i));
    }

    private static void splitCopies(Check check) {
        check.sentence("0 when there is no such part, or copies are below 1");
        PrintQueue q = queue();
        for (int copies : Check.outside(1, 5)) {
            check.due("split(2, 1, " + copies + ") of 6 copies", 0, () -> q.split(2, 1, copies));
        }
        check.due("one part still", 1, () -> q.state(2, 3));
        check.due("the most: split(2, 1, 5)", 1, () -> q.split(2, 1, 5));
        check.due("the least: split(3, 1, 1)", 1, () -> q.split(3, 1, 1));
        q.job(1, 1, 100, 0, 0);
        check.due("split(5, 2, 100) of 100", 0, () -> q.split(5, 2, 100));
        check.due("split(5, 2, 99) of 100", 1, () -> q.split(5, 2, 99));
        q.job(1, 1, 1, 0, 0);
        check.due("split(6, 2, 1) of 1", 0, () -> q.split(6, 2, 1));
        q.job(1, 1, 2, 0, 0);
        check.due("split(7, 2, 2) of 2", 0, () -> q.split(7, 2, 2));
        check.due("split(7, 2, 1) of 2", 1, () -> q.split(7, 2, 1));
    }

    private static void like(Check check) {
        check.sentence("The bound of likeness, 0 .. 100: what it was");
        PrintQueue q = new PrintQueue();
        check.refusedOutside("like(?)", 0, 100, ARGUMENT, q::like);
        check.due("like(0)", 3, () -> q.like(0));
        check.due("like(100)", 0, () -> q.like(100));
        check.refusedOutside("like(?) at 100", 0, 100, ARGUMENT, q::like);
        check.due("like(99)", 100, () -> q.like(99));
        check.due("like(1)", 99, () -> q.like(1));
        check.due("like(1)", 1, () -> q.like(1));
    }
}
