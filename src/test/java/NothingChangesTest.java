import java.util.ArrayList;
import java.util.Arrays;
import java.util.List;

/**
 * "A call that throws changes nothing": in several scenes, each call that throws there is made between the
 * scene and some later calls, and those answer what they answer without it. So it is with calls that answer
 * 0 because there is nothing to do, and with those that only ask.
 */
public final class NothingChangesTest {
    /** A scene, how many printers, tickets and jobs it has, and calls that throw in it alone. */
    private record Scene(String name, String calls, int printers, int tickets, int jobs, String refused, String idle) {
    }

    private static final Scene EMPTY = new Scene("nothing there yet", "", 0, 0, 0, """
            job(1, 1, 1, 0, 0) ! NoSuchElement; take(1, 30) ! NoSuchElement; split(1, 1, 1) ! NoSuchElement
            """, "");

    private static final Scene NO_JOBS = new Scene("no jobs", """
            printer(0, 1); printer(1, 2); ticket(0, 1, 0); take(1, 3) = 0
            """, 2, 1, 0, """
            take(1, 2) ! IllegalArgument; take(2, MIN) ! IllegalArgument
            print(1, -1) ! IllegalArgument; print(1, 50001) ! IllegalArgument; split(1, 1, 1) ! NoSuchElement
            job(1, 0, 1, 0, 0) ! IllegalArgument; job(1, 501, 1, 0, 0) ! IllegalArgument
            account(1, 4) ! IndexOutOfBounds; account(1, -1) ! IndexOutOfBounds
            """, """
            take(1, 3) = 0; print(2, 50000) = 0; fault(1) = 0; account(1, 0) = 0
            """);

    /**
     * Printer 1 stands behind page 3 of a copy of 5, of both sides; printer 2 has taken a part that goes on
     * with an even page; printer 3 has none and a LIKE number of 1; job 4 is done, 5 cancelled, 7 later; 4, 5
     * and 6 are held.
     */
    private static final Scene AT_WORK = new Scene("at work", """
            printer(0, 2); printer(0, 2); printer(0, 2); ticket(0, 2, 0); ticket(1, 1, 1); like(2) = 3
            job(1, 5, 4, 9, 0); job(1, 4, 6, 8, 1); job(2, 2, 3, 5, 2); job(1, 1, 1, 7, 0); job(1, 3, 3, 6, 0)
            job(1, 2, 2, 6, 0); job(2, 2, 2, 5, 20); job(1, 2, 2, 5, 3)
            take(1, 5) = 1; print(1, 3) = 3
            take(2, 5) = 2; print(2, 2) = 2; fault(2) = 2; split(2, 3, 2) = 1; take(2, 5) = 2
            hold(2, true); take(3, 5) = 4; print(3, 1) = 1; hold(2, false); cancel(5) = 1
            hold(4, true); hold(5, true); hold(6, true)
            """, 3, 2, 8, """
            take(1, 30) ! IllegalState; take(1, 5) ! IllegalState; take(2, MAX) ! IllegalState
            take(3, 4) ! IllegalArgument; take(3, -1) ! IllegalArgument; take(1, 4) ! IllegalArgument
            take(2, 4) ! IllegalArgument; take(2, MIN) ! IllegalArgument; take(3, MIN) ! IllegalArgument
            print(1, -1) ! IllegalArgument; print(1, 50001) ! IllegalArgument; print(2, MIN) ! IllegalArgument
            print(2, MAX) ! IllegalArgument; print(3, -1) ! IllegalArgument
            job(1, 0, 1, 0, 0) ! IllegalArgument; job(1, 501, 1, 0, 0) ! IllegalArgument
            job(1, 1, 0, 0, 0) ! IllegalArgument; job(1, 1, 101, 0, 0) ! IllegalArgument
            job(1, 1, 1, -1, 0) ! IllegalArgument; job(1, 1, 1, 10, 0) ! IllegalArgument
            job(1, 1, 1, 0, -1) ! IllegalArgument; job(1, 0, 1, 0, 30) ! IllegalArgument
            job(3, 1, 1, 0, 30) ! NoSuchElement
            state(1, -1) ! IndexOutOfBounds; state(2, 5) ! IndexOutOfBounds
            doubled(2, -2) ! IndexOutOfBounds; doubled(2, 1) ! IndexOutOfBounds; doubled(1, 0) ! IndexOutOfBounds
            account(1, -1) ! IndexOutOfBounds; account(2, 4) ! IndexOutOfBounds
            split(1, 4, 1) ! NoSuchElement; split(2, 0, 1) ! NoSuchElement; split(3, 4, 0) ! NoSuchElement
            split(9, 1, 1) ! NoSuchElement; split(0, 1, 1) ! NoSuchElement
            """, """
            print(1, 0) = 0; print(2, 0) = 0; print(3, 0) = 0; print(3, 50000) = 0; fault(3) = 0
            cancel(4) = 0; cancel(5) = 0; hold(6, true) = 1; hold(1, false) = 0; like(2) = 2
            split(1, 3, 1) = 0; split(2, 3, 1) = 0; split(3, 3, 0) = 0; split(3, 3, -1) = 0; split(3, 3, 3) = 0
            split(4, 1, 1) = 0; split(5, 1, 1) = 0; split(3, 3, MAX) = 0; split(3, 3, MIN) = 0
            state(1, 0) = 1; state(2, 1) = 1; state(2, 2) = 0; state(2, 3) = 2; state(6, 4) = 1
            doubled(2, -1) = 1; doubled(2, 0) = 1002; doubled(1, -1) = 0
            account(1, 0) = 6; account(1, 1) = 4; account(1, 2) = 0; account(1, 3) = 1
            reason(1) = 0; reason(2) = 5; reason(6) = 1; reason(7) = 2; reason(5) = 0
            """);

    private static final Scene FULL = new Scene("all full", """
            8 x printer(0, 1)
            18 x ticket(0, 1, 0)
            ticket(1, 1, 0) = 19; ticket(0, 1, 0) = 20
            59 x job(20, 2, 2, 0, 1)
            job(19, 2, 2, 0, 0) = 60
            take(8, 1) = 1; print(8, 1) = 1; take(7, 1) = 2; print(7, 3) = 3; fault(7) = 1
            """, 8, 20, 60, """
            printer(0, 1) ! UnsupportedOperation; printer(7, 2) ! UnsupportedOperation
            ticket(0, 1, 0) ! UnsupportedOperation; ticket(7, 2, 3) ! UnsupportedOperation
            job(20, 2, 2, 0, 0) ! UnsupportedOperation; job(1, 500, 100, 9, MAX) ! UnsupportedOperation
            job(1, 0, 1, 0, 0) ! IllegalArgument; job(1, 1, 1, 0, -1) ! IllegalArgument
            take(8, 30) ! IllegalState; take(7, 0) ! IllegalArgument
            """, """
            print(8, 0) = 0; print(7, 1) = 0; fault(7) = 0; split(2, 1, 1) = 0
            """);

    /** What is asked or done behind the call; each row begins anew behind the scene. */
    private static final String[] LATER = {
        """
        state(1, 0); state(1, 1); state(1, 2); state(1, 3); state(1, 4); state(2, 0); state(2, 1); state(2, 2)
        state(2, 3); state(2, 4); state(3, 0); state(3, 3); state(4, 0); state(4, 4); state(5, 0); state(5, 4)
        state(6, 4)
        state(7, 0); state(7, 4); state(8, 0); state(8, 1); state(60, 0)
        doubled(1, -1); doubled(2, -1); doubled(2, 0); doubled(2, 1); doubled(3, -1)
        reason(1); reason(2); reason(3); reason(4); reason(5); reason(6); reason(7); reason(8); reason(60)
        account(1, 0); account(1, 1); account(1, 2); account(1, 3); account(2, 0); account(2, 1); account(2, 2)
        account(2, 3); account(20, 0); account(20, 1); account(20, 2); account(20, 3)
        """,
        """
        printer(1, 2); ticket(1, 2, 0); job(1, 2, 2, 0, 0); printer(1, 1); ticket(1, 1, 0); job(2, 2, 2, 0, 0)
        like(1); like(3); hold(1, true); hold(2, true); hold(6, true); hold(7, true); hold(60, true)
        split(1, 1, 1); split(2, 1, 1); split(3, 1, 1); split(8, 1, 1); split(60, 1, 1)
        cancel(1); cancel(2); cancel(3); cancel(4); cancel(5); cancel(6); cancel(7); cancel(8); cancel(60)
        """,
        """
        take(3, 0); take(3, 1); take(3, 2); take(3, 3); take(3, 4); take(3, 5); take(3, 6); take(3, 19); take(3, 20)
        print(3, 1); print(3, 1); print(3, 50000); take(3, 20); print(3, 50000); take(3, 20); print(3, 50000)
        take(3, 20); account(1, 2); account(2, 2)
        """,
        """
        print(1, 1); account(1, 1); print(1, 1); account(1, 1); print(1, 50000); account(1, 1); print(1, 1)
        print(2, 1); account(1, 1); print(2, 1); account(1, 1); print(2, 50000); account(1, 1); print(2, 1)
        print(8, 1); account(20, 1); print(8, 50000); account(20, 1); take(8, 5); account(20, 2)
        """,
        """
        fault(1); fault(2); fault(3); fault(7); fault(8); doubled(1, -1); doubled(1, 0); doubled(2, -1); doubled(2, 1)
        take(1, 5); print(1, 50000); take(1, 5); print(1, 50000); take(1, 5); print(1, 50000); take(1, 5)
        take(2, 20); print(2, 50000); take(2, 20); print(2, 50000); take(2, 20); print(2, 50000); take(2, 20)
        take(3, 20); print(3, 50000); take(3, 20); print(3, 50000); take(3, 20); print(3, 50000); take(3, 20)
        account(1, 0); account(1, 1); account(1, 2); account(1, 3); account(2, 0); account(2, 1); account(2, 2)
        """
    };

    public static void main(String[] args) {
        Check check = new Check("nothing changes");
        Scene[] scenes = {EMPTY, NO_JOBS, AT_WORK, FULL};
        for (Scene scene : scenes) {
            changesNothing(check, "A call that throws changes nothing", scene, refusedEverywhere(scene) + scene.refused);
            changesNothing(check, "nothing to do", scene, scene.idle);
        }
        check.end();
    }

    /** Calls that throw in every scene. */
    private static String refusedEverywhere(Scene scene) {
        return """
                printer(-1, 1) ! IllegalArgument; printer(8, 1) ! IllegalArgument
                printer(0, 0) ! IllegalArgument; printer(0, 3) ! IllegalArgument
                ticket(-1, 1, 0) ! IllegalArgument; ticket(8, 1, 0) ! IllegalArgument
                ticket(0, 0, 0) ! IllegalArgument; ticket(0, 3, 0) ! IllegalArgument
                ticket(0, 1, -1) ! IllegalArgument; ticket(0, 1, 4) ! IllegalArgument
                job(0, 1, 1, 0, 0) ! NoSuchElement; job(TICKET, 1, 1, 0, 0) ! NoSuchElement
                take(0, 30) ! NoSuchElement; take(PRINTER, 30) ! NoSuchElement
                print(0, 1) ! NoSuchElement; print(PRINTER, 1) ! NoSuchElement
                fault(0) ! NoSuchElement; fault(PRINTER) ! NoSuchElement
                hold(0, true) ! NoSuchElement; hold(JOB, true) ! NoSuchElement; hold(JOB, false) ! NoSuchElement
                cancel(0) ! NoSuchElement; cancel(JOB) ! NoSuchElement
                state(0, 0) ! NoSuchElement; state(JOB, 0) ! NoSuchElement
                doubled(0, -1) ! NoSuchElement; doubled(JOB, -1) ! NoSuchElement
                account(0, 0) ! NoSuchElement; account(TICKET, 0) ! NoSuchElement
                reason(0) ! NoSuchElement; reason(JOB) ! NoSuchElement
                split(0, 1, 1) ! NoSuchElement; split(JOB, 1, 1) ! NoSuchElement; split(1, PRINTER, 1) ! NoSuchElement
                like(-1) ! IllegalArgument; like(101) ! IllegalArgument
                like(MIN) ! IllegalArgument; like(MAX) ! IllegalArgument
                """.replace("PRINTER", Integer.toString(scene.printers + 1))
                .replace("TICKET", Integer.toString(scene.tickets + 1))
                .replace("JOB", Integer.toString(scene.jobs + 1));
    }

    /**
     * Beside the rows above, some that show a printer's LIKE number: when jobs 1 and 2 are gone, those that
     * are left are of one rank and two media, and which is taken depends on whether it is below the bound.
     */
    private static List<String> laterCalls() {
        List<String> all = new ArrayList<>(Arrays.asList(LATER));
        int[] printers = {1, 2, 3, 7, 8};
        for (int printer : printers) {
            for (int bound = 0; bound <= 4; bound++) {
                all.add(("like(%1$d); fault(%2$d); cancel(1); cancel(2); take(%2$d, 5); account(1, 2)\n"
                        + "account(2, 2); account(19, 2); account(20, 2)\n")
                        .formatted(bound, printer));
            }
        }
        return all;
    }

    private static void changesNothing(Check check, String sentence, Scene scene, String calls) {
        for (String later : laterCalls()) {
            List<String> want = answers(scene, "", later);
            for (String call : Script.callsOf(calls)) {
                Script.says(check, sentence + " (" + scene.name + ")", scene.calls, call);
                String made = call.replaceAll("\\s*[=!].*", "");
                List<String> got = answers(scene, made, later);
                check.holds(made + " changed what is answered to " + later + "from " + want + " to " + got, got.equals(want));
            }
        }
    }

    /** What the later calls answer behind the scene and one call, if there is one. */
    private static List<String> answers(Scene scene, String call, String later) {
        Script script = new Script();
        for (String first : Script.callsOf(scene.calls)) {
            script.repeat(first);
        }
        if (!call.isEmpty()) {
            script.answer(call);
        }
        List<String> all = new ArrayList<>();
        for (String next : Script.callsOf(later)) {
            all.add(script.answer(next));
        }
        return all;
    }
}
