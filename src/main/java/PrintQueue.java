import java.util.ArrayList;
import java.util.NoSuchElementException;

/** A print queue: the promises that it keeps are numbered in DOC.md. */
public final class PrintQueue {

    private static final int MOST_PRINTERS = 8;
    private static final int MOST_TICKETS = 20;
    private static final int MOST_JOBS = 60;
    private static final int MOST_MEDIA = 7;
    private static final int MOST_FINISH = 3;
    private static final int MOST_RANK = 9;
    private static final int MOST_PAGES = 500;
    private static final int MOST_COPIES = 100;
    private static final int MOST_AT_ONCE = 50000;
    private static final int MOST_LIKE = 100;
    private static final int FIRST_BOUND = 3;

    /** An object is used for 512 calls at most, and a call doubles one page at most. */
    private static final int MOST_DOUBLED = 512;

    private static final int ANY_PRINTER = 0;

    private static final int JOB_WAITS = 0;
    private static final int JOB_PRINTS = 1;
    private static final int JOB_DONE = 2;
    private static final int JOB_CANCELLED = 3;

    private static final int NONE_WAITS = 0;
    private static final int IS_HELD = 1;
    private static final int IS_LATER = 2;
    private static final int NONE_FITS = 3;
    private static final int ALL_HAVE_PARTS = 4;
    private static final int COULD_BE_TAKEN = 5;

    private final ArrayList<Printer> printers;
    private final ArrayList<Ticket> tickets;
    private final ArrayList<Job> jobs;
    private long now;
    private int bound;

    public PrintQueue() {
        printers = new ArrayList<>();
        tickets = new ArrayList<>();
        jobs = new ArrayList<>();
        now = 0L;
        bound = FIRST_BOUND;
    }

    public int printer(int media, int sides)
            throws IllegalArgumentException, UnsupportedOperationException {
        if (!isMedia(media) || !isSides(sides)) {
            throw new IllegalArgumentException("media are 0 .. 7, sides 1 or 2");
        }
        if (printers.size() >= MOST_PRINTERS) {
            throw new UnsupportedOperationException("there are 8 printers");
        }
        int number = printers.size() + 1;
        printers.add(new Printer(number, media, sides));
        return number;
    }

    public int ticket(int media, int sides, int finish)
            throws IllegalArgumentException, UnsupportedOperationException {
        if (!isMedia(media) || !isSides(sides) || !within(finish, 0, MOST_FINISH)) {
            throw new IllegalArgumentException("media are 0 .. 7, sides 1 or 2, finish is 0 .. 3");
        }
        if (tickets.size() >= MOST_TICKETS) {
            throw new UnsupportedOperationException("there are 20 tickets");
        }
        // The finish is not kept, because no promise asks for it again.
        tickets.add(new Ticket(media, sides));
        return tickets.size();
    }

    public int job(int ticket, int pages, int copies, int rank, long t)
            throws NoSuchElementException, IllegalArgumentException, UnsupportedOperationException {
        Ticket of = ticketOf(ticket);
        if (!within(pages, 1, MOST_PAGES) || !within(copies, 1, MOST_COPIES)
                || !within(rank, 0, MOST_RANK) || t < 0) {
            throw new IllegalArgumentException("pages are 1 .. 500, copies 1 .. 100, rank 0 .. 9, t from 0");
        }
        if (jobs.size() >= MOST_JOBS) {
            throw new UnsupportedOperationException("there are 60 jobs");
        }
        int number = jobs.size() + 1;
        Job made = new Job(number, of, pages, rank, t);
        made.parts.add(new Part(made, copies, ANY_PRINTER));
        jobs.add(made);
        return number;
    }

    public int take(int printer, long t)
            throws NoSuchElementException, IllegalArgumentException, IllegalStateException {
        Printer by = printerOf(printer);
        if (t < now) {
            throw new IllegalArgumentException("the time never goes back");
        }
        if (by.part != null) {
            throw new IllegalStateException("the printer has a part");
        }
        now = t;
        Part chosen = choose(by);
        if (chosen == null) {
            return 0;
        }
        by.begin(chosen);
        return chosen.job.number;
    }

    public int print(int printer, int pages) throws NoSuchElementException, IllegalArgumentException {
        Printer by = printerOf(printer);
        if (!within(pages, 0, MOST_AT_ONCE)) {
            throw new IllegalArgumentException("pages are 0 .. 50000");
        }
        Part part = by.part;
        if (part == null) {
            return 0;
        }
        int out = Math.min(pages, part.pagesLeft());
        part.comeOut(out);
        if (part.pagesLeft() < 1) {
            part.place = Place.ENDED;
            by.part = null;
        }
        return out;
    }

    public int fault(int printer) throws NoSuchElementException {
        Printer by = printerOf(printer);
        Part part = by.part;
        if (part == null) {
            return 0;
        }
        by.part = null;
        part.place = Place.WAITS;
        if (part.pagesBegun() > 0) {
            part.doubleLastPage();
        }
        return part.pagesBegun() + 1;
    }

    public int hold(int job, boolean on) throws NoSuchElementException {
        Job of = jobOf(job);
        int was = of.held ? 1 : 0;
        of.held = on;
        return was;
    }

    public int cancel(int job) throws NoSuchElementException {
        Job of = jobOf(job);
        int gone = of.endParts();
        // A job that is done has no parts to end, and stays done.
        if (gone > 0) {
            of.cancelled = true;
            emptyPrintersOf(of);
        }
        return gone;
    }

    public int state(int job, int what) throws NoSuchElementException, IndexOutOfBoundsException {
        Job of = jobOf(job);
        switch (what) {
            case 0: return of.standing();
            case 1: return of.pagesThatCount();
            case 2: return of.copiesThatCount();
            case 3: return of.parts.size();
            case 4: return of.held ? 1 : 0;
            default: throw new IndexOutOfBoundsException("of a job there are 0 .. 4");
        }
    }

    public int doubled(int job, int i) throws NoSuchElementException, IndexOutOfBoundsException {
        Job of = jobOf(job);
        if (i == -1) {
            return of.doubled.size();
        }
        if (i < 0 || i >= of.doubled.size()) {
            throw new IndexOutOfBoundsException("the job has no such doubled page");
        }
        return of.doubled.get(i);
    }

    public long account(int who, int what) throws NoSuchElementException, IndexOutOfBoundsException {
        Ticket of = ticketOf(who);
        switch (what) {
            case 0: return of.pagesOut;
            case 1: return of.sheets;
            case 2: return of.changes;
            case 3: return of.doubledPages;
            default: throw new IndexOutOfBoundsException("of a ticket there are 0 .. 3");
        }
    }

    public int reason(int job) throws NoSuchElementException {
        Job of = jobOf(job);
        if (!of.hasPart(Place.WAITS)) {
            return NONE_WAITS;
        }
        if (of.held) {
            return IS_HELD;
        }
        if (of.time > now) {
            return IS_LATER;
        }
        return reasonByPrinters(of);
    }

    public int split(int job, int printer, int copies) throws NoSuchElementException {
        Job of = jobOf(job);
        Printer alone = printerOf(printer);
        if (copies < 1) {
            return 0;
        }
        Part from = of.firstToSplit(copies);
        if (from == null) {
            return 0;
        }
        from.copies -= copies;
        of.parts.add(new Part(of, copies, alone.number));
        return 1;
    }

    public int like(int most) throws IllegalArgumentException {
        if (!within(most, 0, MOST_LIKE)) {
            throw new IllegalArgumentException("the bound of likeness is 0 .. 100");
        }
        int was = bound;
        bound = most;
        return was;
    }

    private static boolean within(int number, int least, int most) {
        return number >= least && number <= most;
    }

    private static boolean isMedia(int media) {
        return within(media, 0, MOST_MEDIA);
    }

    private static boolean isSides(int sides) {
        return within(sides, 1, 2);
    }

    private Printer printerOf(int number) {
        if (!within(number, 1, printers.size())) {
            throw new NoSuchElementException("no such printer");
        }
        return printers.get(number - 1);
    }

    private Ticket ticketOf(int number) {
        if (!within(number, 1, tickets.size())) {
            throw new NoSuchElementException("no such ticket");
        }
        return tickets.get(number - 1);
    }

    private Job jobOf(int number) {
        if (!within(number, 1, jobs.size())) {
            throw new NoSuchElementException("no such job");
        }
        return jobs.get(number - 1);
    }

    /**
     * The part that a printer takes, null when there is none. A job's parts are alike in all by which
     * one chooses but their number, so only the first that fits can be the one.
     */
    private Part choose(Printer by) {
        Part best = null;
        for (int i = 0; i < jobs.size(); i++) {
            Job of = jobs.get(i);
            Part part = of.held || of.time > now ? null : of.firstThatFits(by);
            if (part != null && (best == null || goesBefore(of, best.job, by))) {
                best = part;
            }
        }
        return best;
    }

    /** Whether a job goes before one with a lesser number, at this printer. */
    private boolean goesBefore(Job of, Job lesser, Printer by) {
        if (of.rank != lesser.rank) {
            return of.rank > lesser.rank;
        }
        boolean like = of.ticket.media == by.media;
        boolean lesserLike = lesser.ticket.media == by.media;
        if (by.likeNumber < bound && like != lesserLike) {
            return like;
        }
        return of.time < lesser.time;
    }

    private int reasonByPrinters(Job of) {
        int answer = NONE_FITS;
        for (int i = 0; i < printers.size(); i++) {
            Printer by = printers.get(i);
            if (of.firstThatFits(by) != null) {
                if (by.part == null) {
                    return COULD_BE_TAKEN;
                }
                answer = ALL_HAVE_PARTS;
            }
        }
        return answer;
    }

    private void emptyPrintersOf(Job of) {
        for (int i = 0; i < printers.size(); i++) {
            Printer by = printers.get(i);
            if (by.part != null && by.part.job == of) {
                by.part = null;
            }
        }
    }

    /** Where a part is; one that is over and one that was cancelled have both ENDED. */
    private enum Place { WAITS, AT_PRINTER, ENDED }

    private static final class Printer {
        final int number;
        final int sides;
        int media;
        int likeNumber;
        /** Null while the printer has none. */
        Part part;

        Printer(int number, int media, int sides) {
            this.number = number;
            this.media = media;
            this.sides = sides;
        }

        boolean fits(Part other) {
            return sides >= other.job.ticket.sides
                    && (other.only == ANY_PRINTER || other.only == number);
        }

        void begin(Part taken) {
            Ticket of = taken.job.ticket;
            if (of.media == media) {
                likeNumber++;
            } else {
                media = of.media;
                likeNumber = 0;
                of.changes++;
            }
            part = taken;
            taken.place = Place.AT_PRINTER;
            taken.onNewSheet = true;
        }
    }

    private static final class Ticket {
        final int media;
        final int sides;
        long pagesOut;
        long sheets;
        long changes;
        long doubledPages;

        Ticket(int media, int sides) {
            this.media = media;
            this.sides = sides;
        }
    }

    private static final class Job {
        final int number;
        final Ticket ticket;
        /** Of one copy. */
        final int pages;
        final int rank;
        final long time;
        final ArrayList<Part> parts;
        final ArrayList<Integer> doubled;
        boolean held;
        boolean cancelled;

        Job(int number, Ticket ticket, int pages, int rank, long time) {
            this.number = number;
            this.ticket = ticket;
            this.pages = pages;
            this.rank = rank;
            this.time = time;
            parts = new ArrayList<>();
            doubled = new ArrayList<>();
        }

        int standing() {
            if (cancelled) {
                return JOB_CANCELLED;
            }
            if (hasPart(Place.AT_PRINTER)) {
                return JOB_PRINTS;
            }
            return hasPart(Place.WAITS) ? JOB_WAITS : JOB_DONE;
        }

        boolean hasPart(Place place) {
            for (int i = 0; i < parts.size(); i++) {
                if (parts.get(i).place == place) {
                    return true;
                }
            }
            return false;
        }

        int pagesThatCount() {
            int sum = 0;
            for (int i = 0; i < parts.size(); i++) {
                sum += parts.get(i).printed;
            }
            return sum;
        }

        int copiesThatCount() {
            int sum = 0;
            for (int i = 0; i < parts.size(); i++) {
                sum += parts.get(i).copiesWhole();
            }
            return sum;
        }

        /** The first part that waits and that a printer fits, null when there is none. */
        Part firstThatFits(Printer by) {
            for (int i = 0; i < parts.size(); i++) {
                Part part = parts.get(i);
                if (part.place == Place.WAITS && by.fits(part)) {
                    return part;
                }
            }
            return null;
        }

        /** The first part off which so many copies can be split, null when there is none. */
        Part firstToSplit(int copies) {
            for (int i = 0; i < parts.size(); i++) {
                Part part = parts.get(i);
                if (part.place == Place.WAITS && part.only == ANY_PRINTER
                        && part.copiesUntouched() > copies) {
                    return part;
                }
            }
            return null;
        }

        /** Ends the parts that have not ended: how many. */
        int endParts() {
            int count = 0;
            for (int i = 0; i < parts.size(); i++) {
                Part part = parts.get(i);
                if (part.place != Place.ENDED) {
                    part.place = Place.ENDED;
                    count++;
                }
            }
            return count;
        }
    }

    private static final class Part {
        final Job job;
        /** The number of the printer that it is for alone, or ANY_PRINTER. */
        final int only;
        int copies;
        /** The pages that count. */
        int printed;
        /** Whether the next page is the first behind the taking. */
        boolean onNewSheet;
        Place place;

        Part(Job job, int copies, int only) {
            this.job = job;
            this.copies = copies;
            this.only = only;
            place = Place.WAITS;
        }

        int pagesLeft() {
            return copies * job.pages - printed;
        }

        int copiesWhole() {
            return job.pages < 1 ? 0 : printed / job.pages;
        }

        /** How many pages count of the copy that is begun. */
        int pagesBegun() {
            return job.pages < 1 ? 0 : printed % job.pages;
        }

        int copiesUntouched() {
            int touched = pagesBegun() > 0 ? 1 : 0;
            return copies - copiesWhole() - touched;
        }

        void comeOut(int pages) {
            if (pages < 1) {
                return;
            }
            // An odd page is a new sheet by itself, and must not be counted twice.
            boolean evenOnNewSheet = onNewSheet && pagesBegun() % 2 == 1;
            int oddBefore = oddPages();
            printed += pages;
            onNewSheet = false;
            Ticket of = job.ticket;
            of.pagesOut += pages;
            if (of.sides == 1) {
                of.sheets += pages;
            } else {
                of.sheets += oddPages() - oddBefore + (evenOnNewSheet ? 1 : 0);
            }
        }

        /** How many of the pages that count are odd ones of their copies. */
        int oddPages() {
            return copiesWhole() * ((job.pages + 1) / 2) + (pagesBegun() + 1) / 2;
        }

        void doubleLastPage() {
            int code = 1000 * (copiesWhole() + 1) + pagesBegun();
            printed--;
            job.ticket.doubledPages++;
            if (job.doubled.size() < MOST_DOUBLED) {
                job.doubled.add(code);
            }
        }
    }
}
