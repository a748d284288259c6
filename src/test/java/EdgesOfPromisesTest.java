/** The edges that promises 8 to 15 name beside their ranges and exceptions, sentence by sentence. */
public final class EdgesOfPromisesTest {
    private static final String TWO = "printer(0, 1); printer(0, 1); ticket(0, 1, 0)\n";

    public static void main(String[] args) {
        Check check = new Check("edges of promises");
        hold(check);
        cancelCounts(check);
        cancelLeavesNothing(check);
        doneOrCancelledAlready(check);
        whatAJobIs(check);
        whatCounts(check);
        hundredParts(check);
        doubledStays(check);
        noneWaits(check);
        heldThenLater(check);
        noPrinterFits(check);
        allThatFitHaveParts(check);
        splitTheLastOnes(check);
        splitOneMore(check);
        splitWhichPart(check);
        splitForWhom(check);
        likeAtOnce(check);
        check.end();
    }

    private static void hold(Check check) {
        String sentence = "A job is held, or not (parts at printers go on): what it was (1, or 0).";
        Script.says(check, sentence, TWO, """
                2 x job(1, 2, 4, 0, 0)
                hold(1, false) = 0; state(1, 4) = 0; hold(1, true) = 0; state(1, 4) = 1
                hold(1, true) = 1; state(1, 4) = 1; hold(1, false) = 1; state(1, 4) = 0; hold(1, false) = 0
                # each job by itself
                hold(2, true) = 0; state(1, 4) = 0; hold(1, true) = 0; hold(1, false) = 1; state(2, 4) = 1
                """);
        Script.says(check, sentence + " (parts at printers, all of them)", TWO, """
                job(1, 2, 4, 0, 0); split(1, 2, 2) = 1; take(1, 0) = 1
                hold(1, true) = 0; take(2, 0) = 0
                print(1, 3) = 3; state(1, 0) = 1; hold(1, false) = 1; take(2, 0) = 1; hold(1, true) = 0
                print(2, 1) = 1; print(1, 1) = 1; print(2, 3) = 3; state(1, 0) = 2; state(1, 4) = 1
                """);
        Script.says(check, sentence + " (one that waits again does not)", TWO, """
                job(1, 2, 4, 0, 0); take(1, 0) = 1; hold(1, true) = 0; print(1, 1) = 1; fault(1) = 1
                take(1, 0) = 0; take(2, 0) = 0; reason(1) = 1; hold(1, false) = 1; take(2, 0) = 1
                """);
        Script.says(check, sentence + " (one that is done, one that is cancelled)", TWO, """
                2 x job(1, 1, 1, 0, 0)
                take(1, 0) = 1; print(1, 1) = 1; cancel(2) = 1
                hold(1, true) = 0; hold(1, true) = 1; state(1, 0) = 2; state(1, 4) = 1
                hold(2, true) = 0; hold(2, true) = 1; state(2, 0) = 3; state(2, 4) = 1; hold(2, false) = 1
                take(1, 0) = 0
                """);
    }

    private static void cancelCounts(Check check) {
        String sentence = "all its parts that are not over are gone, printers that had one have none: how many that were";
        Script.says(check, sentence + " (one that waits)", TWO, """
                job(1, 2, 4, 0, 0); cancel(1) = 1
                """);
        Script.says(check, sentence + " (one at a printer)", TWO, """
                job(1, 2, 4, 0, 0); take(1, 0) = 1; cancel(1) = 1
                """);
        Script.says(check, sentence + " (one waits, one at a printer, one over)", TWO, """
                job(1, 2, 4, 0, 0); split(1, 2, 1) = 1; split(1, 2, 1) = 1
                take(1, 0) = 1; take(2, 0) = 1; print(2, 2) = 2
                cancel(1) = 2; state(1, 3) = 3
                """);
        Script.says(check, sentence + " (held and later)", TWO, """
                job(1, 2, 4, 0, 9); split(1, 2, 1) = 1; hold(1, true) = 0; cancel(1) = 2
                """);
        Script.says(check, sentence + " (the most: 100)", TWO, """
                job(1, 1, 100, 0, 0)
                99 x split(1, 2, 1) = 1
                state(1, 3) = 100; take(1, 0) = 1; take(2, 0) = 1
                cancel(1) = 100; print(1, 1) = 0; print(2, 1) = 0; state(1, 3) = 100
                """);
        Script.says(check, sentence + " (at all 8 printers)", """
                8 x printer(0, 1)
                ticket(0, 1, 0); job(1, 1, 9, 0, 0); job(1, 1, 9, 0, 0)
                split(1, 2, 1) = 1; split(1, 3, 1) = 1; split(1, 4, 1) = 1; split(1, 5, 1) = 1
                split(1, 6, 1) = 1; split(1, 7, 1) = 1; split(1, 8, 1) = 1
                take(1, 0) = 1; take(2, 0) = 1; take(3, 0) = 1; take(4, 0) = 1
                take(5, 0) = 1; take(6, 0) = 1; take(7, 0) = 1; take(8, 0) = 1
                cancel(1) = 8
                print(1, 1) = 0; print(2, 1) = 0; print(3, 1) = 0; print(4, 1) = 0
                print(5, 1) = 0; print(6, 1) = 0; print(7, 1) = 0; print(8, 1) = 0
                take(8, 0) = 2; take(1, 0) = 0
                """);
    }

    private static void cancelLeavesNothing(Check check) {
        Script.says(check, "all its parts that are not over are gone, printers that had one have none", TWO, """
                2 x job(1, 2, 4, 0, 0)
                split(1, 2, 1) = 1; take(1, 0) = 1; print(1, 3) = 3; take(2, 0) = 1; fault(2) = 1
                take(2, 0) = 1; cancel(1) = 2
                fault(1) = 0; fault(2) = 0; print(1, 1) = 0; reason(1) = 0; split(1, 1, 1) = 0
                state(1, 0) = 3; state(1, 1) = 3; state(1, 2) = 1; doubled(1, -1) = 0; account(1, 0) = 3
                hold(1, false) = 0; take(1, 0) = 2; take(2, 0) = 0
                """);
        Script.says(check, "printers that had one have none (those of other jobs keep theirs)", TWO, """
                2 x job(1, 2, 4, 0, 0)
                take(1, 0) = 1; take(2, 0) = 2; print(2, 3) = 3; cancel(1) = 1
                take(2, 0) ! IllegalState; print(2, 1) = 1; state(2, 0) = 1; state(2, 2) = 2; reason(2) = 0
                """);
    }

    private static void doneOrCancelledAlready(Check check) {
        Script.says(check, "0 for one that is done or cancelled already", TWO, """
                2 x job(1, 1, 2, 0, 0)
                split(1, 2, 1) = 1
                take(1, 0) = 1; print(1, 1) = 1
                # one part is over, the job is not done
                take(2, 0) = 1; print(2, 1) = 1
                cancel(1) = 0; state(1, 0) = 2; cancel(1) = 0; state(1, 0) = 2; state(1, 1) = 2
                cancel(2) = 1; state(2, 0) = 3; cancel(2) = 0; state(2, 0) = 3; state(2, 1) = 0
                """);
    }

    private static void whatAJobIs(Check check) {
        String sentence = "0 what it is (0 waits: no part at a printer, 1 prints, 2 done, 3 cancelled)";
        Script.says(check, sentence, TWO, """
                job(1, 2, 4, 0, 5); state(1, 0) = 0
                hold(1, true) = 0; state(1, 0) = 0; hold(1, false) = 1
                split(1, 2, 2) = 1; state(1, 0) = 0; take(2, 5) = 1; state(1, 0) = 1
                # printer 2 has the first part; the second is for it alone, and waits
                print(2, 50000) = 4; state(1, 0) = 0; take(2, 5) = 1; state(1, 0) = 1
                fault(2) = 1; state(1, 0) = 0; take(2, 5) = 1; print(2, 3) = 3; state(1, 0) = 1
                print(2, 1) = 1; state(1, 0) = 2
                """);
        Script.says(check, sentence + " (all parts at printers, then one fewer)", TWO, """
                job(1, 2, 4, 0, 0); split(1, 2, 2) = 1; take(1, 0) = 1; take(2, 0) = 1; state(1, 0) = 1
                fault(1) = 1; state(1, 0) = 1; fault(2) = 1; state(1, 0) = 0; cancel(1) = 2; state(1, 0) = 3
                """);
    }

    private static void whatCounts(Check check) {
        Script.says(check, "1 pages that count, 2 copies that count whole, 3 how many parts it had", TWO, """
                job(1, 3, 6, 0, 0); split(1, 2, 2) = 1; take(1, 0) = 1; take(2, 0) = 1
                print(1, 2) = 2; print(2, 2) = 2
                # 4 pages, but no copy is whole
                state(1, 1) = 4; state(1, 2) = 0; state(1, 3) = 2
                print(1, 1) = 1; state(1, 1) = 5; state(1, 2) = 1
                print(2, 1) = 1; state(1, 1) = 6; state(1, 2) = 2
                print(2, 2) = 2; fault(2) = 2; state(1, 1) = 7; state(1, 2) = 2; state(1, 3) = 2
                take(2, 0) = 1; print(2, 2) = 2; state(1, 1) = 9; state(1, 2) = 3
                cancel(1) = 1; state(1, 1) = 9; state(1, 2) = 3; state(1, 3) = 2
                """);
    }

    private static void hundredParts(Check check) {
        String sentence = "Of a job: 0 what it is .. 3 how many parts it had (100 of them, one after the other)";
        Script.says(check, sentence, TWO, """
                job(1, 2, 100, 0, 0)
                99 x split(1, 2, 1) = 1
                take(1, 0) = 1; print(1, 2) = 2
                """, "take(2, 0) = 1; print(2, 2) = 2\n".repeat(98), """
                # the last one
                state(1, 0) = 0; state(1, 1) = 198; state(1, 2) = 99; state(1, 3) = 100; reason(1) = 5
                take(2, 0) = 1; state(1, 0) = 1; reason(1) = 0
                print(2, 1) = 1; state(1, 1) = 199; state(1, 2) = 99; fault(2) = 1; doubled(1, 0) = 1001
                state(1, 0) = 0; take(2, 0) = 1; print(2, 50000) = 2
                state(1, 0) = 2; state(1, 1) = 200; state(1, 2) = 100; state(1, 3) = 100; cancel(1) = 0
                """);
    }

    private static void doubledStays(Check check) {
        String begun = """
                job(1, 3, 2, 0, 0); take(1, 0) = 1; print(1, 2) = 2; fault(1) = 2
                take(1, 0) = 1; print(1, 3) = 3; fault(1) = 1; doubled(1, -1) = 2
                """;
        Script.says(check, "The i-th doubled page of a job (that is done)", TWO, begun, """
                take(1, 0) = 1; print(1, 50000) = 3; state(1, 0) = 2
                doubled(1, -1) = 2; doubled(1, 0) = 1002; doubled(1, 1) = 2001; doubled(1, 2) ! IndexOutOfBounds
                account(1, 3) = 2
                """);
        Script.says(check, "The i-th doubled page of a job (that is cancelled)", TWO, begun, """
                cancel(1) = 1; state(1, 0) = 3
                doubled(1, -1) = 2; doubled(1, 0) = 1002; doubled(1, 1) = 2001; doubled(1, 2) ! IndexOutOfBounds
                account(1, 3) = 2; account(1, 0) = 5; account(1, 1) = 5
                """);
        Script.says(check, "The i-th doubled page of a job (that is held)", TWO, begun, """
                hold(1, true) = 0; doubled(1, -1) = 2; doubled(1, 0) = 1002; doubled(1, 1) = 2001; account(1, 3) = 2
                """);
    }

    private static void noneWaits(Check check) {
        String sentence = "Why no part of a job is taken: 0 none waits";
        Script.says(check, sentence + " (before all the others)", """
                ticket(0, 2, 0); job(1, 1, 1, 0, 9); hold(1, true) = 0
                # held, later, no printer
                reason(1) = 1; cancel(1) = 1; reason(1) = 0
                """);
        Script.says(check, sentence + " (all at printers, or over)", TWO, """
                job(1, 1, 2, 0, 0); split(1, 2, 1) = 1; reason(1) = 5
                take(1, 0) = 1; reason(1) = 5; take(2, 0) = 1; reason(1) = 0; hold(1, true) = 0; reason(1) = 0
                print(1, 1) = 1; reason(1) = 0; print(2, 1) = 1; reason(1) = 0; hold(1, false) = 1; reason(1) = 0
                """);
    }

    private static void heldThenLater(Check check) {
        Script.says(check, "1 it is held (before 2, 3, 4, 5)", """
                ticket(0, 1, 0); job(1, 1, 2, 0, 9); hold(1, true) = 0; reason(1) = 1
                printer(0, 1); reason(1) = 1; take(1, 9) = 0; reason(1) = 1
                job(1, 1, 2, 0, 0); take(1, 9) = 2; reason(1) = 1; hold(1, false) = 1; reason(1) = 4
                hold(1, true) = 0; fault(1) = 1; reason(1) = 1; hold(1, false) = 1; reason(1) = 5
                """);
        Script.says(check, "2 its time is later than now (before 3, 4, 5)", """
                ticket(0, 1, 0); job(1, 1, 2, 0, 9); reason(1) = 2
                printer(0, 1); reason(1) = 2
                job(1, 1, 2, 0, 0); take(1, 8) = 2; reason(1) = 2; print(1, 2) = 2; reason(1) = 2
                take(1, 8) = 0; reason(1) = 2; take(1, 9) = 1
                """);
        Script.says(check, "2 its time is later than now (by one, and not)", """
                printer(0, 1); ticket(0, 1, 0); take(1, 5) = 0
                job(1, 1, 1, 0, 4); job(1, 1, 1, 0, 5); job(1, 1, 1, 0, 6); job(1, 1, 1, 0, MAX)
                reason(1) = 5; reason(2) = 5; reason(3) = 2; reason(4) = 2
                """);
    }

    private static void noPrinterFits(Check check) {
        Script.says(check, "3 no printer fits a part that waits", """
                ticket(0, 2, 0); ticket(0, 1, 0); job(1, 1, 2, 0, 0); job(2, 1, 2, 0, 0)
                # no printer, then one that prints on one side
                reason(1) = 3; reason(2) = 3; printer(0, 1) = 1; reason(1) = 3; reason(2) = 5
                # also while that has a part
                take(1, 0) = 2; reason(1) = 3
                printer(0, 2) = 2; reason(1) = 5
                """);
        Script.says(check, "3 no printer fits a part that waits (the parts that do not wait are not asked)", """
                printer(0, 1); printer(0, 2); ticket(0, 2, 0); job(1, 1, 3, 0, 0)
                split(1, 1, 1) = 1; reason(1) = 5
                # the part for any is at printer 2; the other is for printer 1, which does not fit
                take(2, 0) = 1; reason(1) = 3; fault(2) = 1; reason(1) = 5
                take(2, 0) = 1; print(2, 2) = 2; reason(1) = 3; state(1, 0) = 0
                """);
    }

    private static void allThatFitHaveParts(Check check) {
        Script.says(check, "4 all that fit have parts; 5 one could take it", """
                printer(0, 1); printer(0, 2); printer(0, 2)
                ticket(0, 2, 0); ticket(0, 1, 0)
                3 x job(2, 9, 1, 9, 0)
                job(1, 1, 1, 0, 0) = 4
                reason(4) = 5; take(2, 0) = 1; reason(4) = 5; take(3, 0) = 2
                # printer 1 is free, but does not fit
                reason(4) = 4; take(1, 0) = 3; reason(4) = 4
                cancel(2) = 1; reason(4) = 5; print(2, 9) = 9; reason(4) = 5
                """);
        Script.says(check, "4 all that fit have parts (the only one for which a part is)", TWO, """
                job(1, 1, 2, 5, 0); split(1, 2, 1) = 1; job(1, 1, 1, 9, 0); job(1, 1, 1, 8, 0)
                take(2, 0) = 2; reason(1) = 5; take(1, 0) = 3; reason(1) = 4
                print(1, 1) = 1; reason(1) = 5; take(1, 0) = 1; reason(1) = 4; print(1, 1) = 1; reason(1) = 4
                print(2, 1) = 1; reason(1) = 5
                """);
        Script.says(check, "5 one could take it (of another media, the LIKE number below the bound or not)", """
                printer(0, 1); ticket(0, 1, 0); ticket(1, 1, 0); job(1, 1, 3, 5, 0); job(2, 1, 3, 5, 0)
                reason(1) = 5; reason(2) = 5; like(1) = 3; take(1, 0) = 1; print(1, 1) = 1; fault(1) = 1
                reason(1) = 5; reason(2) = 5; like(0) = 1; reason(1) = 5; reason(2) = 5
                take(1, 0) = 1; reason(2) = 4; fault(1) = 1; reason(1) = 5; reason(2) = 5
                """);
        Script.says(check, "5 one could take it (though it would choose another)", TWO, """
                job(1, 1, 1, 0, 0); job(1, 1, 1, 9, 0); reason(1) = 5; take(1, 0) = 2; reason(1) = 5
                """);
    }

    private static void splitTheLastOnes(Check check) {
        Script.says(check, "So many copies (of those of which no page was printed, the last ones)", TWO, """
                job(1, 3, 6, 0, 0); take(1, 0) = 1; print(1, 4) = 4; print(1, 1) = 1; fault(1) = 2
                # one copy is whole, one begun, four are such
                split(1, 2, 3) = 1; state(1, 1) = 4; state(1, 2) = 1; state(1, 3) = 2
                # the first part goes on where it was: 2 pages and a copy
                take(1, 0) = 1; print(1, 50000) = 5; take(1, 0) = 0
                take(2, 0) = 1; print(2, 50000) = 9; state(1, 0) = 2; state(1, 2) = 6
                """);
    }

    private static void splitOneMore(Check check) {
        String sentence = "and has as many such and one more";
        Script.says(check, sentence + " (none printed)", TWO, """
                job(1, 3, 4, 0, 0); split(1, 2, 5) = 0; split(1, 2, 4) = 0; state(1, 3) = 1
                split(1, 2, 3) = 1; split(1, 2, 1) = 0; state(1, 3) = 2
                """);
        Script.says(check, sentence + " (whole copies are no such)", TWO, """
                job(1, 3, 4, 0, 0); take(1, 0) = 1; print(1, 6) = 6; fault(1) = 1
                split(1, 2, 2) = 0; split(1, 2, 1) = 1; split(1, 2, 1) = 0
                """);
        Script.says(check, sentence + " (one that is begun is no such)", TWO, """
                job(1, 3, 4, 0, 0); take(1, 0) = 1; print(1, 2) = 2; fault(1) = 2
                split(1, 2, 3) = 0; split(1, 2, 2) = 1; split(1, 2, 1) = 0
                """);
        Script.says(check, sentence + " (one of which the only page was doubled is such)", TWO, """
                job(1, 3, 4, 0, 0); take(1, 0) = 1; print(1, 1) = 1; fault(1) = 1
                split(1, 2, 3) = 1; split(1, 2, 1) = 0
                """);
        Script.says(check, sentence + " (the last copy is begun: none is such)", TWO, """
                job(1, 3, 2, 0, 0); take(1, 0) = 1; print(1, 5) = 5; fault(1) = 2; split(1, 2, 1) = 0
                """);
        Script.says(check, sentence + " (what other parts printed is not asked)", TWO, """
                job(1, 2, 6, 0, 0); split(1, 2, 2) = 1; take(1, 0) = 1; take(2, 0) = 1
                print(2, 3) = 3; fault(1) = 1
                # one copy of the second part is whole, one begun; all four of the first are such
                split(1, 1, 4) = 0; split(1, 1, 3) = 1; split(1, 1, 1) = 0
                """);
        Script.says(check, sentence + " (copies of one page)", TWO, """
                job(1, 1, 4, 0, 0); take(1, 0) = 1; print(1, 2) = 2; fault(1) = 1
                split(1, 2, 2) = 0; split(1, 2, 1) = 1; split(1, 2, 1) = 0
                """);
    }

    private static void splitWhichPart(Check check) {
        String sentence = "of the first part that waits, is for any printer";
        Script.says(check, sentence + " (not one at a printer)", TWO, """
                job(1, 1, 9, 0, 0); take(1, 0) = 1; split(1, 2, 1) = 0; fault(1) = 1; split(1, 2, 1) = 1
                """);
        Script.says(check, sentence + " (not one for one alone)", TWO, """
                job(1, 1, 9, 0, 0); split(1, 2, 7) = 1; split(1, 1, 2) = 0; split(1, 2, 2) = 0
                split(1, 1, 1) = 1; split(1, 1, 1) = 0; state(1, 3) = 3
                """);
        Script.says(check, sentence + " (not one that is over, or gone)", TWO, """
                2 x job(1, 1, 9, 0, 0)
                split(1, 2, 4) = 1; take(1, 0) = 1; print(1, 5) = 5; split(1, 2, 1) = 0; split(1, 1, 1) = 0
                cancel(2) = 1; split(2, 2, 1) = 0; state(2, 3) = 1
                """);
        Script.says(check, sentence + " (held, or later)", TWO, """
                job(1, 1, 9, 0, 5); hold(1, true) = 0; split(1, 2, 4) = 1; state(1, 4) = 1; reason(1) = 1
                hold(1, false) = 1; reason(1) = 2; take(2, 4) = 0; take(2, 5) = 1; print(2, 50000) = 5
                take(2, 5) = 1; print(2, 50000) = 4
                """);
    }

    private static void splitForWhom(Check check) {
        Script.says(check, "become a part for one printer alone: 1", """
                3 x printer(0, 1)
                ticket(0, 1, 0); job(1, 2, 9, 0, 0)
                split(1, 1, 1) = 1; split(1, 2, 2) = 1; split(1, 3, 3) = 1; state(1, 3) = 4; state(1, 1) = 0
                take(3, 0) = 1; print(3, 50000) = 6; take(3, 0) = 1; print(3, 50000) = 6; take(3, 0) = 0
                take(2, 0) = 1; print(2, 50000) = 4; take(2, 0) = 0
                take(1, 0) = 1; print(1, 50000) = 2; take(1, 0) = 0; state(1, 0) = 2
                """);
        Script.says(check, "become a part for one printer alone (that has a part already)", TWO, """
                2 x job(1, 2, 3, 0, 0)
                take(1, 0) = 1; split(2, 1, 1) = 1; print(1, 50000) = 6
                take(2, 0) = 2; print(2, 50000) = 4; take(2, 0) = 0; take(1, 0) = 2; print(1, 50000) = 2
                """);
    }

    private static void likeAtOnce(Check check) {
        Script.says(check, "The bound of likeness, 0 .. 100: what it was.", """
                printer(0, 1); ticket(0, 1, 0); ticket(1, 1, 0)
                job(2, 1, 1, 5, 0); job(1, 1, 1, 5, 1)
                like(0) = 3; take(1, 1) = 1; fault(1) = 1
                # media 1 is in, the LIKE number is 0
                like(1) = 0; take(1, 1) = 1; fault(1) = 1
                # 1 is not below 1; the only one that may be taken has media 0
                like(1) = 1; hold(1, true) = 0; take(1, 1) = 2; fault(1) = 1; hold(1, false) = 1
                # media 0 is in, the LIKE number is 0
                take(1, 1) = 2; fault(1) = 1; take(1, 1) = 1; fault(1) = 1
                like(101) ! IllegalArgument; like(-1) ! IllegalArgument; like(3) = 1
                """);
    }
}
