/** The sentences of 'Terms' on pages, when a part is over, when a job is done, faults and doubled pages. */
public final class TermsPagesTest {
    private static final String TWO = "printer(0, 1); printer(0, 1); ticket(0, 1, 0)\n";

    public static void main(String[] args) {
        Check check = new Check("terms, pages and faults");
        copyByCopy(check);
        lastPageOfAPart(check);
        wholeCopies(check);
        copiesOfOnePage(check);
        done(check);
        waitsAgain(check);
        whichPageIsDoubled(check);
        atTheEndsOfACopy(check);
        againAndAgain(check);
        greatestCopyAndPage(check);
        goesOnBehind(check);
        splitPart(check);
        check.end();
    }

    private static void copyByCopy(Check check) {
        Script.says(check, "A printer prints its part's PAGES: copy by copy, page by page, the first copies first.", TWO, """
                job(1, 3, 3, 0, 0); take(1, 0) = 1
                print(1, 1) = 1; state(1, 1) = 1; state(1, 2) = 0
                print(1, 1) = 1; state(1, 1) = 2; state(1, 2) = 0
                print(1, 1) = 1; state(1, 1) = 3; state(1, 2) = 1
                print(1, 1) = 1; state(1, 1) = 4; state(1, 2) = 1
                # across the end of a copy
                print(1, 4) = 4; state(1, 1) = 8; state(1, 2) = 2
                print(1, 1) = 1; state(1, 1) = 9; state(1, 2) = 3
                """);
        Script.says(check, "copy by copy, page by page (which the next is, shown by a fault)", TWO, """
                job(1, 3, 3, 0, 0)
                take(1, 0) = 1; print(1, 2) = 2; fault(1) = 2; doubled(1, 0) = 1002
                take(1, 0) = 1; print(1, 4) = 4; fault(1) = 2; doubled(1, 1) = 2002
                take(1, 0) = 1; print(1, 3) = 3; fault(1) = 1; doubled(1, 2) = 3001
                take(1, 0) = 1; print(1, 50000) = 3
                """);
    }

    private static void lastPageOfAPart(Check check) {
        Script.says(check, "When all are printed, the part is over, and the printer has none.", TWO, """
                job(1, 3, 2, 0, 0); job(1, 1, 1, 0, 0)
                take(1, 0) = 1; print(1, 5) = 5
                # all but one
                state(1, 0) = 1; take(1, 0) ! IllegalState
                print(1, 0) = 0; state(1, 0) = 1; take(1, 0) ! IllegalState
                print(1, 1) = 1
                state(1, 0) = 2; print(1, 1) = 0; fault(1) = 0; take(1, 0) = 2
                """);
        Script.says(check, "When all are printed, the part is over (by more than are left)", TWO, """
                job(1, 3, 2, 0, 0); job(1, 1, 1, 0, 0)
                take(1, 0) = 1; print(1, 5) = 5; print(1, 2) = 1
                # nothing of the next job came out
                state(1, 0) = 2; state(2, 1) = 0; state(2, 0) = 0; account(1, 0) = 6; take(1, 0) = 2
                """);
        Script.says(check, "When all are printed, the part is over (exactly, at once)", TWO, """
                job(1, 3, 2, 0, 0)
                take(1, 0) = 1; print(1, 6) = 6; state(1, 0) = 2; take(1, 0) = 0
                """);
        Script.says(check, "When all are printed, the part is over (the least: one copy of one page)", TWO, """
                job(1, 1, 1, 0, 0)
                take(1, 0) = 1; state(1, 0) = 1; print(1, 0) = 0; state(1, 0) = 1
                print(1, 1) = 1; state(1, 0) = 2; state(1, 1) = 1; state(1, 2) = 1; fault(1) = 0
                """);
        Script.says(check, "When all are printed, the part is over (the greatest: 100 copies of 500 pages)", TWO, """
                job(1, 500, 100, 0, 0)
                take(1, 0) = 1; print(1, 49999) = 49999; state(1, 0) = 1; state(1, 1) = 49999; state(1, 2) = 99
                print(1, 50000) = 1; state(1, 0) = 2; state(1, 1) = 50000; state(1, 2) = 100
                """);
    }

    private static void wholeCopies(Check check) {
        int[] manyPages = {1, 2, 3, 255, 256, 499, 500};
        for (int pages : manyPages) {
            Script.says(check, "copy by copy (a whole one at a time, and one page fewer or more)", TWO, """
                    job(1, %1$d, 5, 0, 0); take(1, 0) = 1
                    print(1, %1$d) = %1$d; state(1, 2) = 1; print(1, %1$d) = %1$d; state(1, 2) = 2
                    print(1, %2$d) = %2$d; state(1, 2) = 2; print(1, %3$d) = %3$d; state(1, 2) = 4
                    print(1, %1$d) = %1$d; state(1, 2) = 5; state(1, 0) = 2; print(1, %1$d) = 0
                    """.formatted(pages, pages - 1, pages + 1));
        }
    }

    private static void copiesOfOnePage(Check check) {
        Script.says(check, "if some pages of the copy that is begun are printed (copies of one page: never)", TWO, """
                job(1, 1, 4, 0, 0)
                take(1, 0) = 1; fault(1) = 1
                take(1, 0) = 1; print(1, 1) = 1; state(1, 2) = 1; fault(1) = 1; doubled(1, -1) = 0; state(1, 1) = 1
                take(1, 0) = 1; print(1, 2) = 2; state(1, 2) = 3; fault(1) = 1; doubled(1, -1) = 0; state(1, 1) = 3
                take(2, 0) = 1; print(2, 2) = 1; state(1, 0) = 2; account(1, 0) = 4; account(1, 3) = 0
                """);
    }

    private static void done(Check check) {
        String sentence = "A job is DONE, when all its parts are over.";
        Script.says(check, sentence, TWO, """
                job(1, 2, 3, 0, 0); split(1, 2, 1) = 1
                take(2, 0) = 1; take(1, 0) = 0; reason(1) = 4
                print(2, 4) = 4
                # one is over, one waits, then it is at a printer, then it waits again
                state(1, 0) = 0; take(2, 0) = 1; state(1, 0) = 1; print(2, 1) = 1; state(1, 0) = 1
                fault(2) = 1; state(1, 0) = 0; take(2, 0) = 1; print(2, 2) = 2
                state(1, 0) = 2
                """);
        Script.says(check, sentence + " (the part that was split off first)", TWO, """
                job(1, 2, 3, 0, 0); split(1, 2, 1) = 1
                take(1, 0) = 1; take(2, 0) = 1; print(2, 2) = 2; state(1, 0) = 1; fault(1) = 1; state(1, 0) = 0
                take(2, 0) = 1; print(2, 4) = 4; state(1, 0) = 2
                """);
        Script.says(check, sentence + " (held or not)", TWO, """
                job(1, 2, 1, 0, 0); take(1, 0) = 1; hold(1, true) = 0; print(1, 2) = 2
                state(1, 0) = 2; state(1, 4) = 1; reason(1) = 0; cancel(1) = 0; state(1, 0) = 2
                """);
    }

    private static void waitsAgain(Check check) {
        Script.says(check, "A FAULT at a printer with a part: the part waits again, with what was printed of it", TWO, """
                job(1, 3, 4, 0, 0)
                fault(1) = 0; state(1, 0) = 0
                take(1, 0) = 1; print(1, 7) = 7; fault(1) = 1
                state(1, 0) = 0; reason(1) = 5; state(1, 1) = 6; state(1, 2) = 2; state(1, 3) = 1
                # the printer has none
                fault(1) = 0; print(1, 1) = 0; state(1, 1) = 6; doubled(1, -1) = 1
                take(2, 0) = 1; take(1, 0) = 0; print(2, 50000) = 6; state(1, 0) = 2; state(1, 2) = 4
                """);
        Script.says(check, "A FAULT at a printer with a part (the other printers go on)", TWO, """
                2 x job(1, 3, 4, 0, 0)
                take(1, 0) = 1; take(2, 0) = 2; print(1, 2) = 2; print(2, 2) = 2
                fault(2) = 2; state(1, 0) = 1; state(1, 1) = 2; state(2, 1) = 1; doubled(1, -1) = 0; doubled(2, -1) = 1
                print(1, 1) = 1; state(1, 2) = 1
                """);
    }

    private static void whichPageIsDoubled(Check check) {
        Script.says(check, "the last one of them is DOUBLED: it counts as not printed (and will come out once more)", TWO, """
                job(1, 4, 2, 0, 0)
                take(1, 0) = 1; print(1, 3) = 3; state(1, 1) = 3
                fault(1) = 3; state(1, 1) = 2; doubled(1, -1) = 1; doubled(1, 0) = 1003
                account(1, 0) = 3; account(1, 3) = 1
                # page 3 and 4 of the first copy and the second: 6
                take(1, 0) = 1; print(1, 50000) = 6; state(1, 0) = 2; state(1, 1) = 8; account(1, 0) = 9; account(1, 3) = 1
                """);
    }

    private static void atTheEndsOfACopy(Check check) {
        String sentence = "the page (1 ..) of the copy that is begun, or begins next, with which the part goes on";
        Script.says(check, sentence + " (no page yet)", TWO, """
                job(1, 3, 2, 0, 0); take(1, 0) = 1; print(1, 0) = 0; fault(1) = 1; doubled(1, -1) = 0; state(1, 1) = 0
                """);
        Script.says(check, sentence + " (a copy's first page)", TWO, """
                job(1, 3, 2, 0, 0); take(1, 0) = 1; print(1, 1) = 1; fault(1) = 1; doubled(1, 0) = 1001; state(1, 1) = 0
                """);
        Script.says(check, sentence + " (a copy's last page but one)", TWO, """
                job(1, 3, 2, 0, 0); take(1, 0) = 1; print(1, 2) = 2; fault(1) = 2; doubled(1, 0) = 1002; state(1, 1) = 1
                """);
        Script.says(check, sentence + " (a copy's last page)", TWO, """
                job(1, 3, 2, 0, 0); take(1, 0) = 1; print(1, 3) = 3; fault(1) = 1; doubled(1, -1) = 0; state(1, 1) = 3
                state(1, 2) = 1; account(1, 3) = 0
                """);
        Script.says(check, sentence + " (the next copy's first page)", TWO, """
                job(1, 3, 2, 0, 0); take(1, 0) = 1; print(1, 4) = 4; fault(1) = 1; doubled(1, 0) = 2001; state(1, 1) = 3
                """);
        Script.says(check, sentence + " (the part's last page but one)", TWO, """
                job(1, 3, 2, 0, 0); take(1, 0) = 1; print(1, 5) = 5; fault(1) = 2; doubled(1, 0) = 2002; state(1, 1) = 4
                """);
        Script.says(check, sentence + " (the part's last page: it has none)", TWO, """
                job(1, 3, 2, 0, 0); take(1, 0) = 1; print(1, 6) = 6; fault(1) = 0; doubled(1, -1) = 0; state(1, 1) = 6
                """);
    }

    private static void againAndAgain(Check check) {
        Script.says(check, "if some pages of the copy that is begun are printed, the last one of them is DOUBLED (again)", TWO, """
                job(1, 5, 2, 0, 0); take(1, 0) = 1; print(1, 9) = 9; fault(1) = 4
                # no page came out since the taking, but some of the copy that is begun are printed
                take(1, 0) = 1; fault(1) = 3; take(2, 0) = 1; fault(2) = 2; take(1, 0) = 1; fault(1) = 1
                # none of it is any more
                take(1, 0) = 1; fault(1) = 1; take(2, 0) = 1; fault(2) = 1
                doubled(1, -1) = 4; doubled(1, 0) = 2004; doubled(1, 1) = 2003; doubled(1, 2) = 2002; doubled(1, 3) = 2001
                state(1, 1) = 5; state(1, 2) = 1; account(1, 0) = 9; account(1, 3) = 4
                """);
        Script.says(check, "The i-th doubled page of a job (the same page twice)", TWO, """
                job(1, 5, 2, 0, 0); take(1, 0) = 1; print(1, 2) = 2; fault(1) = 2
                take(1, 0) = 1; print(1, 1) = 1; fault(1) = 2
                doubled(1, -1) = 2; doubled(1, 0) = 1002; doubled(1, 1) = 1002; account(1, 3) = 2
                take(1, 0) = 1; print(1, 50000) = 9; account(1, 0) = 12
                """);
    }

    private static void greatestCopyAndPage(Check check) {
        Script.says(check, "1000 times the part's copy (from 1) and the page (the greatest)", TWO, """
                job(1, 500, 100, 0, 0); take(1, 0) = 1; print(1, 49999) = 49999; fault(1) = 499
                doubled(1, 0) = 100499; state(1, 1) = 49998
                take(1, 0) = 1; print(1, 1) = 1; fault(1) = 499; doubled(1, 1) = 100499
                """);
        Script.says(check, "1000 times the part's copy (from 1) and the page (the least)", TWO, """
                job(1, 2, 1, 0, 0); take(1, 0) = 1; print(1, 1) = 1; fault(1) = 1; doubled(1, 0) = 1001
                """);
    }

    private static void goesOnBehind(Check check) {
        Script.says(check, "The part goes on behind the pages that count.", TWO, """
                job(1, 3, 3, 0, 0)
                take(1, 0) = 1; print(1, 5) = 5; fault(1) = 2
                take(2, 0) = 1; state(1, 1) = 4; state(1, 2) = 1
                print(2, 1) = 1; state(1, 1) = 5; state(1, 2) = 1
                print(2, 1) = 1; state(1, 1) = 6; state(1, 2) = 2
                print(2, 50000) = 3; state(1, 0) = 2
                """);
    }

    private static void splitPart(Check check) {
        Script.says(check, "1000 times the part's copy (from 1) and the page (each part has its own copies)", TWO, """
                job(1, 3, 5, 0, 0); split(1, 2, 2) = 1
                take(1, 0) = 1; take(2, 0) = 1
                print(2, 4) = 4; fault(2) = 1; doubled(1, 0) = 2001
                print(1, 8) = 8; fault(1) = 2; doubled(1, 1) = 3002
                doubled(1, -1) = 2; state(1, 1) = 10; state(1, 2) = 3; account(1, 3) = 2
                """);
    }
}
