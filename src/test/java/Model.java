import java.util.ArrayList;
import java.util.Comparator;
import java.util.List;
import java.util.NoSuchElementException;

/**
 * The document told page by page, with a note for every page of every copy: slow and plain, so that what
 * the class reckons in one step can be compared with it.
 */
final class Model {
    static final class Printer {
        int media;
        int sides;
        int like = 0;
        Part part = null;
        boolean newSheet = false;
    }

    static final class Ticket {
        int media;
        int sides;
        long[] account = new long[4];
    }

    static final class Part {
        Job job;
        Printer alone;
        boolean over = false;
        /** A row for each copy: which pages count as printed. */
        List<boolean[]> copies = new ArrayList<>();
    }

    static final class Job {
        Ticket ticket;
        int rank;
        long time;
        boolean held = false;
        boolean cancelled = false;
        List<Part> parts = new ArrayList<>();
        List<Integer> doubled = new ArrayList<>();
    }

    final List<Printer> printers = new ArrayList<>();
    final List<Ticket> tickets = new ArrayList<>();
    final List<Job> jobs = new ArrayList<>();
    private long now = 0;
    private int bound = 3;

    private static <T> T numbered(List<T> all, int number) {
        if (number < 1 || number > all.size()) {
            throw new NoSuchElementException();
        }
        return all.get(number - 1);
    }

    private static void argument(boolean right) {
        if (!right) {
            throw new IllegalArgumentException();
        }
    }

    private static void room(List<?> all, int most) {
        if (all.size() == most) {
            throw new UnsupportedOperationException();
        }
    }

    private static void what(int i, int below) {
        if (i < 0 || i >= below) {
            throw new IndexOutOfBoundsException();
        }
    }

    int printer(int media, int sides) {
        argument(media >= 0 && media <= 7 && (sides == 1 || sides == 2));
        room(printers, 8);
        Printer p = new Printer();
        p.media = media;
        p.sides = sides;
        printers.add(p);
        return printers.size();
    }

    int ticket(int media, int sides, int finish) {
        argument(media >= 0 && media <= 7 && (sides == 1 || sides == 2) && finish >= 0 && finish <= 3);
        room(tickets, 20);
        Ticket k = new Ticket();
        k.media = media;
        k.sides = sides;
        tickets.add(k);
        return tickets.size();
    }

    int job(int ticket, int pages, int copies, int rank, long t) {
        Ticket k = numbered(tickets, ticket);
        argument(pages >= 1 && pages <= 500 && copies >= 1 && copies <= 100);
        argument(rank >= 0 && rank <= 9 && t >= 0);
        room(jobs, 60);
        Job j = new Job();
        j.ticket = k;
        j.rank = rank;
        j.time = t;
        Part part = new Part();
        part.job = j;
        for (int i = 0; i < copies; i++) {
            part.copies.add(new boolean[pages]);
        }
        j.parts.add(part);
        jobs.add(j);
        return jobs.size();
    }

    private boolean atPrinter(Part part) {
        return printers.stream().anyMatch(p -> p.part == part);
    }

    private boolean waits(Part part) {
        return !part.over && !part.job.cancelled && !atPrinter(part);
    }

    private static boolean fits(Printer p, Part part) {
        return p.sides >= part.job.ticket.sides && (part.alone == null || part.alone == p);
    }

    int take(int printer, long t) {
        Printer p = numbered(printers, printer);
        argument(t >= now);
        if (p.part != null) {
            throw new IllegalStateException();
        }
        now = t;
        List<Part> may = new ArrayList<>();
        for (Job j : jobs) {
            for (Part part : j.parts) {
                if (waits(part) && !j.held && j.time <= now && fits(p, part)) {
                    may.add(part);
                }
            }
        }
        if (may.isEmpty()) {
            return 0;
        }
        int greatest = may.stream().mapToInt(part -> part.job.rank).max().getAsInt();
        may.removeIf(part -> part.job.rank < greatest);
        if (p.like < bound && may.stream().anyMatch(part -> part.job.ticket.media == p.media)) {
            may.removeIf(part -> part.job.ticket.media != p.media);
        }
        // They stand by jobs and parts, and the sort keeps that order among equal times.
        may.sort(Comparator.comparingLong(part -> part.job.time));
        p.part = may.get(0);
        p.newSheet = true;
        Ticket k = p.part.job.ticket;
        if (k.media == p.media) {
            p.like++;
        } else {
            p.media = k.media;
            p.like = 0;
            k.account[2]++;
        }
        return jobs.indexOf(p.part.job) + 1;
    }

    int print(int printer, int pages) {
        Printer p = numbered(printers, printer);
        argument(pages >= 0 && pages <= 50000);
        int out = 0;
        while (out < pages && p.part != null) {
            printOne(p);
            out++;
        }
        return out;
    }

    private static void printOne(Printer p) {
        Ticket k = p.part.job.ticket;
        for (boolean[] copy : p.part.copies) {
            for (int i = 0; i < copy.length; i++) {
                if (!copy[i]) {
                    copy[i] = true;
                    k.account[0]++;
                    boolean odd = (i + 1) % 2 == 1;
                    k.account[1] += k.sides == 1 || odd || p.newSheet ? 1 : 0;
                    p.newSheet = false;
                    if (copy == p.part.copies.get(p.part.copies.size() - 1) && i == copy.length - 1) {
                        p.part.over = true;
                        p.part = null;
                    }
                    return;
                }
            }
        }
    }

    private static int count(boolean[] copy) {
        int sum = 0;
        for (boolean page : copy) {
            sum += page ? 1 : 0;
        }
        return sum;
    }

    int fault(int printer) {
        Printer p = numbered(printers, printer);
        if (p.part == null) {
            return 0;
        }
        Part part = p.part;
        p.part = null;
        for (int c = 0; c < part.copies.size(); c++) {
            boolean[] copy = part.copies.get(c);
            int printed = count(copy);
            if (printed > 0 && printed < copy.length) {
                copy[printed - 1] = false;
                part.job.doubled.add(1000 * (c + 1) + printed);
                part.job.ticket.account[3]++;
                return printed;
            }
        }
        return 1;
    }

    int hold(int job, boolean on) {
        Job j = numbered(jobs, job);
        int was = j.held ? 1 : 0;
        j.held = on;
        return was;
    }

    int cancel(int job) {
        Job j = numbered(jobs, job);
        if (j.cancelled) {
            return 0;
        }
        int gone = 0;
        for (Part part : j.parts) {
            gone += part.over ? 0 : 1;
            for (Printer p : printers) {
                p.part = p.part == part ? null : p.part;
            }
        }
        j.cancelled = gone > 0;
        return gone;
    }

    int state(int job, int what) {
        Job j = numbered(jobs, job);
        what(what, 5);
        int pages = 0;
        int whole = 0;
        for (Part part : j.parts) {
            for (boolean[] copy : part.copies) {
                pages += count(copy);
                whole += count(copy) == copy.length ? 1 : 0;
            }
        }
        boolean done = j.parts.stream().allMatch(part -> part.over);
        boolean prints = j.parts.stream().anyMatch(this::atPrinter);
        int is = j.cancelled ? 3 : done ? 2 : prints ? 1 : 0;
        return new int[] {is, pages, whole, j.parts.size(), j.held ? 1 : 0}[what];
    }

    int doubled(int job, int i) {
        Job j = numbered(jobs, job);
        if (i == -1) {
            return j.doubled.size();
        }
        what(i, j.doubled.size());
        return j.doubled.get(i);
    }

    long account(int who, int what) {
        Ticket k = numbered(tickets, who);
        what(what, 4);
        return k.account[what];
    }

    int reason(int job) {
        Job j = numbered(jobs, job);
        List<Part> waiting = new ArrayList<>(j.parts);
        waiting.removeIf(part -> !waits(part));
        List<Printer> fitting = new ArrayList<>(printers);
        fitting.removeIf(p -> waiting.stream().noneMatch(part -> fits(p, part)));
        if (waiting.isEmpty()) {
            return 0;
        }
        if (j.held) {
            return 1;
        }
        if (j.time > now) {
            return 2;
        }
        if (fitting.isEmpty()) {
            return 3;
        }
        return fitting.stream().allMatch(p -> p.part != null) ? 4 : 5;
    }

    int split(int job, int printer, int copies) {
        Job j = numbered(jobs, job);
        Printer p = numbered(printers, printer);
        if (copies < 1) {
            return 0;
        }
        for (Part part : j.parts) {
            long such = part.copies.stream().filter(copy -> count(copy) == 0).count();
            if (waits(part) && part.alone == null && such >= copies + 1L) {
                Part off = new Part();
                off.job = j;
                off.alone = p;
                for (int i = 0; i < copies; i++) {
                    off.copies.add(part.copies.remove(part.copies.size() - 1));
                }
                j.parts.add(off);
                return 1;
            }
        }
        return 0;
    }

    int like(int most) {
        argument(most >= 0 && most <= 100);
        int was = bound;
        bound = most;
        return was;
    }
}
