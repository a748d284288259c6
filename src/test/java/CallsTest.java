/** "An object is used for at most 512 calls after it has been made": runs of 512 calls, up to the last. */
public final class CallsTest {
    private static final String SENTENCE = "An object is used for at most 512 calls after it has been made";

    public static void main(String[] args) {
        Check check = new Check("512 calls");
        doubledPages(check);
        parts(check);
        pages(check);
        takings(check);
        smallCalls(check);
        check.end();
    }

    private static void doubledPages(Check check) {
        run(check, "as many doubled pages as there can be", """
                printer(0, 1) = 1; ticket(0, 1, 0) = 1; job(1, 500, 1, 0, 0) = 1
                take(1, 0) = 1; print(1, 499) = 499; fault(1) = 499
                """, again(252, "take(1, 0) = 1; fault(1)"), """
                doubled(1, -1) = 253; doubled(1, 252) = 1247
                """);
        run(check, "as many doubled pages as there can be: the account", """
                printer(0, 2) = 1; ticket(0, 2, 0) = 1; job(1, 500, 1, 0, 0) = 1
                take(1, 0) = 1; print(1, 499) = 499; fault(1) = 499
                """, again(252, "take(1, 0) = 1; fault(1)"), """
                account(1, 3) = 253; state(1, 1) = 246
                """);
    }

    private static void parts(Check check) {
        run(check, "as many parts as there can be", """
                printer(0, 1) = 1; ticket(0, 1, 0) = 1
                5 x job(1, 1, 100, 0, 0) = 1..
                99 x split(1, 1, 1) = 1
                99 x split(2, 1, 1) = 1
                99 x split(3, 1, 1) = 1
                99 x split(4, 1, 1) = 1
                99 x split(5, 1, 1) = 1
                state(1, 3) = 100; state(2, 3) = 100; state(3, 3) = 100; state(4, 3) = 100; state(5, 3) = 100
                split(1, 1, 1) = 0; split(5, 1, 1) = 0; take(1, 0) = 1; cancel(5) = 100; cancel(1) = 100
                """);
    }

    private static void pages(Check check) {
        run(check, "as many pages as there can be", """
                printer(0, 2) = 1; ticket(0, 2, 0) = 1
                60 x job(1, 500, 100, 0, 0) = 1..
                """, takenAndPrinted(60), """
                account(1, 0) = 3000000; account(1, 1) = 1500000; account(1, 2) = 0; account(1, 3) = 0
                324 x take(1, 0) = 0
                state(60, 1) = 50000; state(60, 0) = 2
                """);
        run(check, "as many sheets as there can be", """
                printer(0, 2) = 1; ticket(0, 1, 0) = 1
                60 x job(1, 500, 100, 0, 0) = 1..
                """, takenAndPrinted(60), """
                account(1, 0) = 3000000; account(1, 1) = 3000000; account(1, 2) = 0; account(1, 3) = 0
                326 x take(1, 0) = 0
                """);
        run(check, "page by page", """
                printer(0, 2) = 1; ticket(0, 2, 0) = 1; job(1, 500, 2, 0, 0) = 1; take(1, 0) = 1
                506 x print(1, 1) = 1
                account(1, 0) = 506; account(1, 1) = 253
                """);
    }

    private static void takings(Check check) {
        run(check, "as many takings of like media as there can be", """
                printer(0, 1) = 1; ticket(0, 1, 0) = 1; job(1, 1, 1, 0, 0) = 1
                """, again(253, "take(1, 0) = 1; fault(1) = 1"), """
                account(1, 2) = 0; like(100) = 3; state(1, 0) = 0
                """);
        run(check, "a change by every taking", """
                printer(5, 1) = 1; ticket(0, 1, 0) = 1; ticket(1, 1, 0) = 2; like(0) = 3
                job(2, 1, 1, 0, 0) = 1; job(1, 1, 1, 0, 0) = 2
                """, again(84, """
                hold(1, true) = 0; take(1, 0) = 2; fault(1) = 1; hold(1, false) = 1; take(1, 0) = 1; fault(1) = 1
                """), """
                account(1, 2) = 84; account(2, 2) = 84
                """);
        run(check, "128 changes of one ticket", """
                8 x printer(5, 1) = 1..
                ticket(0, 1, 0) = 1; ticket(1, 1, 0) = 2; job(1, 1, 1, 9, 0) = 1; job(2, 1, 1, 0, 0) = 2
                take(1, 0) = 1; fault(1) = 1; take(2, 0) = 1; fault(2) = 1; take(3, 0) = 1; fault(3) = 1
                take(4, 0) = 1; fault(4) = 1; take(5, 0) = 1; fault(5) = 1; take(6, 0) = 1; fault(6) = 1
                """, again(60, """
                # each of the two has the other's media in
                take(7, 0) = 1; take(8, 0) = 2; fault(7) = 1; fault(8) = 1
                take(8, 0) = 1; take(7, 0) = 2; fault(8) = 1; fault(7) = 1
                """), """
                take(7, 0) = 1; take(8, 0) = 2; fault(7) = 1; fault(8) = 1
                take(8, 0) = 1
                account(1, 2) = 128; account(2, 2) = 121; state(1, 0) = 1
                """);
    }

    private static void smallCalls(Check check) {
        run(check, "a call that throws is a call", """
                170 x like(-1) ! IllegalArgument
                170 x take(1, 0) ! NoSuchElement
                170 x printer(8, 1) ! IllegalArgument
                like(3) = 3; printer(0, 1) = 1
                """);
        run(check, "to and fro", """
                ticket(0, 1, 0) = 1; job(1, 1, 1, 0, 0) = 1
                """, again(254, "hold(1, true) = 0; hold(1, false) = 1"), """
                state(1, 4) = 0; reason(1) = 3
                """);
        run(check, "the time", "printer(0, 1) = 1; ticket(0, 1, 0) = 1; job(1, 1, 1, 0, 508) = 1\n", times(508), """
                print(1, 1) = 1
                """);
    }

    /** The calls are 512, and the last is answered as the first. */
    private static void run(Check check, String what, String... texts) {
        int calls = Script.says(check, SENTENCE + " (" + what + ")", texts);
        check.holds(calls + " calls, not 512", calls == Script.MOST_CALLS);
    }

    private static String again(int times, String calls) {
        return (calls + "\n").repeat(times);
    }

    private static String takenAndPrinted(int jobs) {
        StringBuilder calls = new StringBuilder();
        for (int job = 1; job <= jobs; job++) {
            calls.append("take(1, 0) = ").append(job).append("; print(1, 50000) = 50000\n");
        }
        return calls.toString();
    }

    /** Nothing is taken before the last of the times. */
    private static String times(int last) {
        StringBuilder calls = new StringBuilder();
        for (int t = 1; t <= last; t++) {
            calls.append("take(1, ").append(t).append(") = ").append(t < last ? 0 : 1).append('\n');
        }
        return calls.toString();
    }
}
