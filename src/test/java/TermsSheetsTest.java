/** The sentences of 'Terms' on accounts: pages that came out, sheets, changes, doubled pages. */
public final class TermsSheetsTest {
    private static final String BOTH = "2 x printer(0, 2)\n ticket(0, 2, 0)\n";
    private static final String ONE = "2 x printer(0, 2)\n ticket(0, 1, 0)\n";
    private static final String ODD = "SHEETS (of sides 2: a page is a new sheet when it is odd";
    private static final String FIRST = "or the first behind a fault or the taking";

    public static void main(String[] args) {
        Check check = new Check("terms, accounts");
        pagesThatCameOut(check);
        oddPages(check);
        firstBehindTheTaking(check);
        firstBehindAFault(check);
        partForOneAlone(check);
        ofSidesOne(check);
        byTickets(check);
        cancelledOnes(check);
        check.end();
    }

    private static void pagesThatCameOut(Check check) {
        Script.says(check, "pages that came out (doubled ones each time)", ONE, """
                job(1, 4, 2, 0, 0); account(1, 0) = 0
                take(1, 0) = 1; account(1, 0) = 0; print(1, 0) = 0; account(1, 0) = 0
                print(1, 3) = 3; account(1, 0) = 3
                fault(1) = 3; account(1, 0) = 3
                take(1, 0) = 1; print(1, 1) = 1; account(1, 0) = 4; fault(1) = 3; account(1, 0) = 4
                take(1, 0) = 1; print(1, 50000) = 6; account(1, 0) = 10; account(1, 3) = 2; state(1, 1) = 8
                print(1, 50000) = 0; account(1, 0) = 10
                """);
    }

    private static void oddPages(Check check) {
        Script.says(check, ODD + " (page by page, copies of an odd number)", BOTH, """
                job(1, 5, 2, 0, 0); take(1, 0) = 1; account(1, 1) = 0
                print(1, 1) = 1; account(1, 1) = 1; print(1, 1) = 1; account(1, 1) = 1
                print(1, 1) = 1; account(1, 1) = 2; print(1, 1) = 1; account(1, 1) = 2
                print(1, 1) = 1; account(1, 1) = 3
                # the next copy's page 1 is odd again
                print(1, 1) = 1; account(1, 1) = 4; print(1, 1) = 1; account(1, 1) = 4
                print(1, 3) = 3; account(1, 1) = 6
                """);
        Script.says(check, ODD + " (page by page, copies of an even number)", BOTH, """
                job(1, 2, 3, 0, 0); take(1, 0) = 1
                print(1, 1) = 1; account(1, 1) = 1; print(1, 1) = 1; account(1, 1) = 1
                print(1, 1) = 1; account(1, 1) = 2; print(1, 1) = 1; account(1, 1) = 2
                print(1, 2) = 2; account(1, 1) = 3
                """);
        Script.says(check, ODD + " (copies of one page)", BOTH, """
                job(1, 1, 5, 0, 0); take(1, 0) = 1
                print(1, 1) = 1; account(1, 1) = 1; print(1, 2) = 2; account(1, 1) = 3; print(1, 50000) = 2; account(1, 1) = 5
                """);
        Script.says(check, ODD + " (all at once: 500 pages and 499)", BOTH, """
                job(1, 500, 100, 1, 0); job(1, 499, 100, 0, 0)
                take(1, 0) = 1; print(1, 50000) = 50000; account(1, 1) = 25000
                take(1, 0) = 2; print(1, 50000) = 49900; account(1, 1) = 50000
                """);
        Script.says(check, ODD + " (from the middle of a copy to the middle of another)", BOTH, """
                job(1, 5, 4, 0, 0); take(1, 0) = 1
                print(1, 2) = 2; account(1, 1) = 1
                # 3 4 5, 1 2 3 4 5, 1
                print(1, 9) = 9; account(1, 1) = 7
                # 2
                print(1, 1) = 1; account(1, 1) = 7
                # 3 4 5, 1 2 3 4
                print(1, 7) = 7; account(1, 1) = 11
                # 5
                print(1, 50000) = 1; account(1, 1) = 12
                """);
    }

    private static void firstBehindTheTaking(Check check) {
        Script.says(check, FIRST + " (an odd page is one sheet, not two)", BOTH, """
                job(1, 4, 2, 0, 0); take(1, 0) = 1; print(1, 1) = 1; account(1, 1) = 1
                print(1, 3) = 3; account(1, 1) = 2; fault(1) = 1
                # behind a whole copy page 1 is the next
                take(1, 0) = 1; print(1, 1) = 1; account(1, 1) = 3; print(1, 1) = 1; account(1, 1) = 3
                """);
        Script.says(check, FIRST + " (an even page: print(1, 0) brings out none)", BOTH, """
                job(1, 4, 2, 0, 0); take(1, 0) = 1; print(1, 2) = 2; account(1, 1) = 1; fault(1) = 2
                take(1, 0) = 1; print(1, 0) = 0; account(1, 1) = 1
                print(1, 1) = 1; account(1, 1) = 2
                # the first alone: the next even page is on the back
                print(1, 2) = 2; account(1, 1) = 3; account(1, 0) = 5
                """);
        Script.says(check, FIRST + " (by another printer)", BOTH, """
                job(1, 4, 2, 0, 0); take(1, 0) = 1; print(1, 2) = 2; fault(1) = 2
                take(2, 0) = 1; print(2, 50000) = 7
                # 2 | 3 4 | 1 2 | 3 4 behind 1 2
                account(1, 1) = 5; account(1, 0) = 9
                """);
    }

    private static void firstBehindAFault(Check check) {
        Script.says(check, FIRST + " (even pages: 2, 4)", BOTH, """
                job(1, 6, 1, 0, 0); take(1, 0) = 1; print(1, 2) = 2; account(1, 1) = 1
                fault(1) = 2; take(1, 0) = 1; print(1, 1) = 1; account(1, 1) = 2
                print(1, 2) = 2; account(1, 1) = 3
                fault(1) = 4; take(1, 0) = 1; print(1, 1) = 1; account(1, 1) = 4
                print(1, 2) = 2; account(1, 1) = 5; state(1, 0) = 2
                """);
        Script.says(check, FIRST + " (odd pages: 1, 3)", BOTH, """
                job(1, 6, 1, 0, 0); take(1, 0) = 1; print(1, 1) = 1; account(1, 1) = 1
                fault(1) = 1; take(1, 0) = 1; print(1, 3) = 3; account(1, 1) = 3
                fault(1) = 3; take(1, 0) = 1; print(1, 50000) = 4; account(1, 1) = 5; account(1, 0) = 8
                """);
        Script.says(check, FIRST + " (a fault without a page)", BOTH, """
                job(1, 6, 1, 0, 0); take(1, 0) = 1; print(1, 3) = 3; account(1, 1) = 2
                fault(1) = 3; take(1, 0) = 1; fault(1) = 2; take(1, 0) = 1; account(1, 1) = 2
                # 2 | 3 4 | 5 6
                print(1, 50000) = 5; account(1, 1) = 5
                """);
        Script.says(check, FIRST + " (a fault at another printer is none here)", BOTH, """
                2 x job(1, 6, 1, 0, 0)
                take(1, 0) = 1; take(2, 0) = 2; print(1, 1) = 1; account(1, 1) = 1
                fault(2) = 1; take(2, 0) = 2
                print(1, 1) = 1; account(1, 1) = 1
                """);
    }

    private static void partForOneAlone(Check check) {
        Script.says(check, FIRST + " (a part for one printer alone)", BOTH, """
                job(1, 5, 3, 0, 0); split(1, 2, 2) = 1; take(1, 0) = 1; take(2, 0) = 1
                print(2, 2) = 2; account(1, 1) = 1; fault(2) = 2; take(2, 0) = 1
                print(2, 1) = 1; account(1, 1) = 2; print(2, 1) = 1; account(1, 1) = 3
                # 4 5, 1 2 3 4 5
                print(2, 50000) = 7; account(1, 1) = 7
                print(1, 50000) = 5; account(1, 1) = 10; account(1, 0) = 16; state(1, 0) = 2
                """);
    }

    private static void ofSidesOne(Check check) {
        Script.says(check, "of sides 1 each", ONE, """
                job(1, 5, 3, 0, 0); take(1, 0) = 1
                print(1, 1) = 1; account(1, 1) = 1; print(1, 1) = 1; account(1, 1) = 2
                fault(1) = 2; take(1, 0) = 1; print(1, 1) = 1; account(1, 1) = 3
                print(1, 50000) = 13; account(1, 1) = 16; account(1, 0) = 16
                """);
        Script.says(check, "of sides 1 each (the greatest)", ONE, """
                job(1, 500, 100, 0, 0); take(1, 0) = 1; print(1, 50000) = 50000; account(1, 1) = 50000
                """);
    }

    private static void byTickets(Check check) {
        Script.says(check, "Accounts, by tickets", """
                2 x printer(0, 2)
                ticket(0, 1, 0); ticket(0, 2, 0); ticket(1, 2, 0); ticket(0, 2, 0)
                job(1, 3, 2, 9, 0); job(2, 3, 2, 8, 0); job(3, 3, 2, 7, 0); job(2, 4, 1, 6, 0)
                take(1, 0) = 1; take(2, 0) = 2; print(1, 2) = 2; print(2, 2) = 2; fault(1) = 2; fault(2) = 2
                account(1, 0) = 2; account(1, 1) = 2; account(1, 2) = 0; account(1, 3) = 1
                account(2, 0) = 2; account(2, 1) = 1; account(2, 2) = 0; account(2, 3) = 1
                account(3, 0) = 0; account(3, 1) = 0; account(3, 2) = 0; account(3, 3) = 0
                take(1, 0) = 1; take(2, 0) = 2; print(1, 50000) = 5; print(2, 50000) = 5; take(1, 0) = 3; take(2, 0) = 4
                print(1, 50000) = 6; print(2, 3) = 3; fault(2) = 3
                account(1, 0) = 7; account(1, 1) = 7; account(1, 2) = 0; account(1, 3) = 1
                account(2, 0) = 10; account(2, 1) = 7; account(2, 2) = 0; account(2, 3) = 2
                account(3, 0) = 6; account(3, 1) = 4; account(3, 2) = 1; account(3, 3) = 0
                account(4, 0) = 0; account(4, 1) = 0; account(4, 2) = 0; account(4, 3) = 0
                """);
    }

    private static void cancelledOnes(Check check) {
        Script.says(check, "accounts of what came out (of cancelled ones too)", BOTH, """
                job(1, 5, 3, 0, 0); take(1, 0) = 1; print(1, 7) = 7; cancel(1) = 1
                account(1, 0) = 7; account(1, 1) = 4; account(1, 2) = 0; account(1, 3) = 0
                job(1, 5, 3, 0, 0); take(1, 0) = 2; print(1, 2) = 2; account(1, 0) = 9; account(1, 1) = 5
                """);
    }
}
