/** The sentences of 'Terms' on which part a printer takes: rank, likeness, time, job, part; and changes. */
public final class TermsChooseTest {
    /** Media 0 is in; ticket 1 says media 0, tickets 2 and 4 say 1, ticket 3 says 2. */
    private static final String MEDIA = """
            printer(0, 1); ticket(0, 1, 0); ticket(1, 1, 0); ticket(2, 1, 0); ticket(1, 1, 3)
            """;

    public static void main(String[] args) {
        Check check = new Check("terms, to choose");
        greatestRank(check);
        ofThoseThatMayBeTaken(check);
        likeOnes(check);
        atTheBound(check);
        greatestBound(check);
        likeNumberFarBeyond(check);
        earliestTime(check);
        earlierOfTwo(check);
        leastJobLeastPart(check);
        nothingElseDecides(check);
        partsElsewhere(check);
        changes(check);
        changesByPartsForOne(check);
        likeNumberBecomesZero(check);
        likeNumberGrows(check);
        likeNumberStays(check);
        check.end();
    }

    private static void greatestRank(Check check) {
        String sentence = "TO CHOOSE: of those that may be taken only those with the greatest rank";
        Script.says(check, sentence, MEDIA, """
                # the greater the rank, the later the time and the greater the number
                job(1, 1, 1, 0, 0); job(1, 1, 1, 1, 1); job(1, 1, 1, 2, 2); job(1, 1, 1, 3, 3); job(1, 1, 1, 4, 4)
                job(1, 1, 1, 5, 5); job(1, 1, 1, 6, 6); job(1, 1, 1, 7, 7); job(1, 1, 1, 8, 8); job(1, 1, 1, 9, 9)
                take(1, 9) = 10; print(1, 1); take(1, 9) = 9; print(1, 1); take(1, 9) = 8; print(1, 1)
                take(1, 9) = 7; print(1, 1); take(1, 9) = 6; print(1, 1); take(1, 9) = 5; print(1, 1)
                take(1, 9) = 4; print(1, 1); take(1, 9) = 3; print(1, 1); take(1, 9) = 2; print(1, 1)
                take(1, 9) = 1; print(1, 1); take(1, 9) = 0
                """);
        Script.says(check, sentence + " (before likeness)", MEDIA, """
                job(1, 1, 1, 4, 0); job(2, 1, 1, 5, 3); job(1, 1, 1, 4, 0)
                take(1, 3) = 2
                """);
    }

    private static void ofThoseThatMayBeTaken(Check check) {
        Script.says(check, "TO CHOOSE: of those that may be taken", MEDIA, """
                printer(0, 2); ticket(0, 2, 0)
                job(1, 1, 1, 9, 0) = 1; hold(1, true)
                job(1, 1, 1, 9, 1) = 2
                job(5, 1, 1, 9, 0) = 3
                job(1, 1, 1, 9, 0) = 4; cancel(4) = 1
                job(1, 1, 2, 0, 0) = 5; split(5, 2, 1) = 1
                # held, later, does not fit, cancelled: the least rank is the greatest of the others
                take(1, 0) = 5; print(1, 1) = 1; take(1, 0) = 0
                take(2, 0) = 3; print(2, 1) = 1; take(2, 0) = 5
                take(1, 1) = 2
                """);
        Script.says(check, "TO CHOOSE: of those that may be taken (some have the media that is in it)", MEDIA, """
                job(2, 1, 1, 5, 1) = 1
                job(1, 1, 1, 5, 0) = 2; hold(2, true)
                job(1, 1, 1, 5, 9) = 3
                job(3, 1, 1, 5, 0) = 4
                # those of media 0 are held and later, so time decides
                take(1, 8) = 4
                """);
    }

    private static void likeOnes(Check check) {
        String sentence = "if the printer's LIKE number is below the bound and some have the media that is in it, only those";
        Script.says(check, sentence, MEDIA, """
                job(2, 1, 1, 5, 0) = 1
                5 x job(1, 1, 1, 5, 1) = 2..
                take(1, 1) = 2; print(1, 1); take(1, 1) = 3; print(1, 1); take(1, 1) = 4; print(1, 1)
                # three in a row, and the bound is 3
                take(1, 1) = 1; print(1, 1)
                # none has media 1 any more
                take(1, 1) = 5; print(1, 1); take(1, 1) = 6
                account(1, 2) = 1; account(2, 2) = 1
                """);
        Script.says(check, sentence + " (none has it)", MEDIA, """
                job(3, 1, 1, 5, 1) = 1; job(2, 1, 1, 5, 0) = 2
                take(1, 1) = 2
                """);
        Script.says(check, sentence + " (one of a lower rank is not among them)", MEDIA, """
                job(1, 1, 1, 4, 0) = 1; job(3, 1, 1, 5, 2) = 2; job(2, 1, 1, 5, 1) = 3
                take(1, 2) = 3
                """);
        Script.says(check, sentence + " (the media that is in, not the ticket)", MEDIA, """
                job(1, 1, 1, 5, 0) = 1; job(2, 1, 1, 9, 5) = 2; job(4, 1, 1, 5, 3) = 3
                take(1, 5) = 2; print(1, 1)
                # ticket 4 says media 1 too
                take(1, 5) = 3; account(4, 2) = 0
                """);
    }

    private static void atTheBound(Check check) {
        String sentence = "LIKE number is below the bound";
        String jobs = "job(2, 1, 1, 5, 0) = 1; job(1, 1, 1, 5, 1) = 2; job(1, 1, 1, 5, 2) = 3; job(1, 1, 1, 5, 3) = 4";
        Script.says(check, sentence + ": 0 is not below 0", MEDIA, jobs, """
                like(0) = 3; take(1, 3) = 1
                """);
        Script.says(check, sentence + ": 0 is below 1, 1 is not", MEDIA, jobs, """
                like(1) = 3; take(1, 3) = 2; print(1, 1); take(1, 3) = 1
                """);
        Script.says(check, sentence + ": 1 is below 2, 2 is not", MEDIA, jobs, """
                like(2) = 3; take(1, 3) = 2; print(1, 1); take(1, 3) = 3; print(1, 1); take(1, 3) = 1
                """);
        Script.says(check, sentence + ": at the bound also likes go by time", MEDIA, """
                like(0) = 3; job(1, 1, 1, 5, 1) = 1; job(2, 1, 1, 5, 2) = 2; job(1, 1, 1, 5, 0) = 3
                take(1, 3) = 3; print(1, 1); take(1, 3) = 1; print(1, 1); take(1, 3) = 2
                account(1, 2) = 0; account(2, 2) = 1
                """);
    }

    /** A taking and a fault make the LIKE number grow without an end of the part. */
    private static void greatestBound(Check check) {
        String sentence = "LIKE number is below the bound: 99 is below 100, 100 is not";
        StringBuilder again = new StringBuilder();
        for (int i = 0; i < 99; i++) {
            again.append("take(1, 9) = 2; fault(1) = 1\n");
        }
        String jobs = "job(2, 1, 1, 5, 0) = 1; job(1, 1, 1, 5, 9) = 2; like(100) = 3\n";
        Script.says(check, sentence, MEDIA, jobs, again.toString(), """
                take(1, 9) = 2; fault(1) = 1
                take(1, 9) = 1
                """);
        Script.says(check, sentence + " (and 99 not below 99)", MEDIA, jobs, again.toString(), """
                like(99) = 100
                take(1, 9) = 1
                """);
    }

    private static void likeNumberFarBeyond(Check check) {
        int[] takings = {100, 101, 127, 128, 129, 200, 245};
        for (int many : takings) {
            Script.says(check, "else it grows by 1 (" + many + " is not below 100)", MEDIA, """
                    like(100) = 3; job(1, 1, 1, 5, 9) = 1
                    """, "take(1, 9) = 1; fault(1) = 1\n".repeat(many), """
                    job(2, 1, 1, 5, 0) = 2
                    take(1, 9) = 2
                    """);
        }
    }

    private static void earliestTime(Check check) {
        String sentence = "of these the one of the earliest job's time";
        Script.says(check, sentence, MEDIA, """
                job(1, 1, 1, 5, 5); job(1, 1, 1, 5, 3); job(1, 1, 1, 5, 4); job(1, 1, 1, 5, 0)
                take(1, 5) = 4; print(1, 1); take(1, 5) = 2; print(1, 1); take(1, 5) = 3; print(1, 1); take(1, 5) = 1
                """);
        Script.says(check, sentence + " (great ones)", MEDIA, """
                job(1, 1, 1, 5, MAX); job(1, 1, 1, 5, 9223372036854775806); job(1, 1, 1, 5, 4294967296)
                job(1, 1, 1, 5, 2147483648); job(1, 1, 1, 5, 1)
                take(1, MAX) = 5; print(1, 1); take(1, MAX) = 4; print(1, 1); take(1, MAX) = 3; print(1, 1)
                take(1, MAX) = 2; print(1, 1); take(1, MAX) = 1
                """);
        Script.says(check, sentence + " (behind likeness)", MEDIA, """
                job(2, 1, 1, 5, 0); job(1, 1, 1, 5, 8); job(1, 1, 1, 5, 7)
                take(1, 8) = 3; print(1, 1); take(1, 8) = 2; print(1, 1); take(1, 8) = 1
                """);
    }

    /** Also those that only a long can hold, and whose difference no int can. */
    private static void earlierOfTwo(Check check) {
        long[] times = {0, 1, (1L << 31) - 1, 1L << 31, (1L << 31) + 1, (1L << 32) - 1, 1L << 32, (1L << 32) + 1,
            1L << 53, (1L << 53) + 1, Long.MAX_VALUE - 1, Long.MAX_VALUE};
        for (long first : times) {
            for (long second : times) {
                Script.says(check, "of these the one of the earliest job's time, of the least job", MEDIA, """
                        job(1, 1, 1, 5, %d) = 1; job(1, 1, 1, 5, %d) = 2
                        take(1, MAX) = %d
                        """.formatted(first, second, second < first ? 2 : 1));
            }
        }
    }

    private static void leastJobLeastPart(Check check) {
        Script.says(check, "of the least job", MEDIA, """
                4 x job(1, 1, 1, 5, 2) = 1..
                take(1, 5) = 1; print(1, 1); take(1, 5) = 2; print(1, 1); take(1, 5) = 3; print(1, 1); take(1, 5) = 4
                """);
        Script.says(check, "of the least job (one that waits again goes before)", MEDIA, """
                2 x job(1, 2, 2, 5, 2)
                take(1, 5) = 1; print(1, 3); fault(1) = 1; take(1, 5) = 1
                """);
        Script.says(check, "of the least part", MEDIA, """
                job(1, 1, 9, 5, 2); split(1, 1, 3) = 1; split(1, 1, 2) = 1
                take(1, 5) = 1; print(1, 50000) = 4; take(1, 5) = 1; print(1, 50000) = 3; take(1, 5) = 1
                print(1, 50000) = 2
                """);
        Script.says(check, "of the earliest job's time, of the least job, of the least part", MEDIA, """
                # job 3 is the earliest; of 1 and 2 all parts of 1 go before those of 2
                job(1, 1, 3, 5, 2); job(1, 1, 5, 5, 2); job(1, 1, 7, 5, 1)
                split(2, 1, 1) = 1; split(1, 1, 1) = 1; split(3, 1, 1) = 1
                take(1, 5) = 3; print(1, 50000) = 6; take(1, 5) = 3; print(1, 50000) = 1
                take(1, 5) = 1; print(1, 50000) = 2; take(1, 5) = 1; print(1, 50000) = 1
                take(1, 5) = 2; print(1, 50000) = 4; take(1, 5) = 2; print(1, 50000) = 1
                """);
    }

    /**
     * What else there may be of job N: more or fewer pages and copies, another ticket of the same media,
     * pages that came out, a doubled page, more parts, a hold that was.
     */
    private static final String[] JOBS_OF_ALL_KINDS = {
        "job(1, 4, 3, RANK, TIME) = N",
        "job(1, 500, 3, RANK, TIME) = N",
        "job(1, 1, 3, RANK, TIME) = N",
        "job(1, 4, 100, RANK, TIME) = N",
        "job(1, 4, 1, RANK, TIME) = N",
        "job(2, 4, 3, RANK, TIME) = N",
        "job(1, 4, 3, RANK, TIME) = N; take(2, 9) = N; print(2, 4) = 4; fault(2) = 1",
        "job(1, 4, 3, RANK, TIME) = N; take(2, 9) = N; print(2, 7) = 7; fault(2) = 3; doubled(N, -1) = 1",
        "job(1, 4, 3, RANK, TIME) = N; split(N, 1, 1) = 1; state(N, 3) = 2",
        "job(1, 4, 3, RANK, TIME) = N; split(N, 2, 1) = 1; split(N, 2, 1) = 1; state(N, 3) = 3",
        "job(1, 4, 3, RANK, TIME) = N; hold(N, true) = 0; hold(N, false) = 1"
    };

    private static void nothingElseDecides(Check check) {
        for (String one : JOBS_OF_ALL_KINDS) {
            for (String two : JOBS_OF_ALL_KINDS) {
                ofTwoJobs(check, kind(one, 1, 5, 3), kind(two, 2, 5, 3), 1);
                ofTwoJobs(check, kind(one, 1, 5, 3), kind(two, 2, 6, 4), 2);
                ofTwoJobs(check, kind(one, 1, 6, 4), kind(two, 2, 5, 3), 1);
                ofTwoJobs(check, kind(one, 1, 5, 3), kind(two, 2, 5, 2), 2);
                ofTwoJobs(check, kind(one, 1, 5, 3), kind(two, 2, 5, 4), 1);
            }
        }
    }

    private static String kind(String text, int number, int rank, int time) {
        return text.replace("RANK", Integer.toString(rank)).replace("TIME", Integer.toString(time))
                .replace("N", Integer.toString(number));
    }

    private static void ofTwoJobs(Check check, String one, String two, int due) {
        String sentence = "the greatest rank .. of the earliest job's time, of the least job (by nothing else)";
        String taken = "take(1, 9) = " + due;
        Script.says(check, sentence, """
                2 x printer(0, 2)
                ticket(0, 1, 0) = 1; ticket(0, 2, 3) = 2
                """, one, "hold(1, true) = 0", two, "hold(1, false) = 1", taken);
    }

    private static void partsElsewhere(Check check) {
        Script.says(check, "A part may be TAKEN .. (though the job has others at printers)", """
                4 x printer(0, 1)
                ticket(0, 1, 0); job(1, 2, 9, 5, 0) = 1; job(1, 1, 1, 4, 0) = 2
                split(1, 2, 2) = 1; split(1, 3, 3) = 1
                take(1, 0) = 1; take(2, 0) = 1; fault(1) = 1
                # the parts for any and for printer 3 wait, that for printer 2 is there
                take(4, 0) = 1; take(3, 0) = 1; take(1, 0) = 2
                print(4, 50000) = 8; print(3, 50000) = 6; print(2, 50000) = 4; state(1, 0) = 2
                """);
    }

    private static void changes(Check check) {
        String sentence = "Taken with another media than that which is in, that is changed (a CHANGE of the ticket)";
        Script.says(check, sentence, MEDIA, """
                job(2, 1, 1, 9, 0); job(4, 1, 1, 8, 0); job(1, 1, 1, 7, 0); job(1, 1, 1, 6, 0); job(3, 1, 1, 5, 0)
                take(1, 0) = 1; account(2, 2) = 1; account(1, 2) = 0; print(1, 1)
                # the same media by another ticket
                take(1, 0) = 2; account(4, 2) = 0; account(2, 2) = 1; print(1, 1)
                take(1, 0) = 3; account(1, 2) = 1; print(1, 1)
                take(1, 0) = 4; account(1, 2) = 1; print(1, 1)
                take(1, 0) = 5; account(3, 2) = 1; account(1, 2) = 1; account(2, 2) = 1; account(4, 2) = 0
                """);
        Script.says(check, sentence + " (not when there is none to take)", """
                printer(5, 1); printer(5, 1); ticket(5, 1, 0); ticket(0, 1, 0); take(1, 0) = 0; take(2, 0) = 0
                job(1, 1, 1, 0, 0); take(1, 0) = 1; account(1, 2) = 0; print(1, 1) = 1; take(1, 0) = 0
                job(2, 1, 1, 0, 0); take(2, 0) = 2; account(2, 2) = 1
                job(1, 1, 1, 0, 0); take(1, 0) = 3; account(1, 2) = 0
                """);
        Script.says(check, sentence + " (by the taking, though no page came out)", MEDIA, """
                printer(0, 1); job(2, 2, 2, 9, 0)
                take(1, 0) = 1; account(2, 2) = 1; fault(1) = 1
                # media 1 is in now
                take(1, 0) = 1; account(2, 2) = 1; fault(1) = 1
                # at the other printer it is not
                take(2, 0) = 1; account(2, 2) = 2; cancel(1) = 1; account(2, 2) = 2; account(2, 0) = 0
                """);
    }

    private static void changesByPartsForOne(Check check) {
        Script.says(check, "Taken with another media .. a CHANGE of the ticket (a part for one alone, and begun)", MEDIA, """
                printer(0, 1) = 2
                job(2, 3, 2, 5, 0) = 1; split(1, 2, 1) = 1; take(1, 0) = 1; print(1, 50000) = 3; account(2, 2) = 1
                take(2, 0) = 1; account(2, 2) = 2; print(2, 2) = 2; fault(2) = 2
                job(1, 1, 1, 9, 0) = 2; take(2, 0) = 2; account(1, 2) = 1; print(2, 1) = 1
                take(2, 0) = 1; account(2, 2) = 3; fault(2) = 1; take(2, 0) = 1; account(2, 2) = 3
                # media 1 is in again
                print(2, 50000) = 3; job(4, 1, 1, 0, 0) = 3; take(2, 0) = 3; account(4, 2) = 0
                """);
    }

    private static void likeNumberBecomesZero(Check check) {
        Script.says(check, "and the LIKE number becomes 0", MEDIA, """
                like(1) = 3
                job(2, 1, 1, 5, 1); job(2, 1, 1, 5, 9); job(1, 1, 1, 5, 0); job(1, 1, 1, 5, 2)
                take(1, 9) = 3; print(1, 1)
                # 1 is not below 1: by time, a change
                take(1, 9) = 1; print(1, 1)
                # 0 is below 1: media 1 first, though it is later
                take(1, 9) = 2; print(1, 1)
                take(1, 9) = 4
                """);
        Script.says(check, "and the LIKE number becomes 0 (not 1: the bound is 2)", MEDIA, """
                like(2) = 3
                job(2, 1, 1, 9, 0) = 1
                job(1, 1, 1, 5, 0) = 2; job(2, 1, 1, 5, 1) = 3; job(2, 1, 1, 5, 1) = 4; job(2, 1, 1, 5, 1) = 5
                take(1, 9) = 1; print(1, 1)
                take(1, 9) = 3; print(1, 1); take(1, 9) = 4; print(1, 1); take(1, 9) = 2
                """);
    }

    private static void likeNumberGrows(Check check) {
        String sentence = "else it grows by 1";
        String threeTimes = """
                like(1) = 3; job(1, 1, 1, 5, 5) = 1
                take(1, 5) = 1; fault(1) = 1; take(1, 5) = 1; fault(1) = 1; take(1, 5) = 1; fault(1) = 1
                job(2, 1, 1, 5, 0) = 2
                """;
        Script.says(check, sentence + " (also beyond the bound: 3 is not below 3)", MEDIA, threeTimes, """
                like(3) = 1; take(1, 5) = 2
                """);
        Script.says(check, sentence + " (also beyond the bound: 3 is below 4)", MEDIA, threeTimes, """
                like(4) = 1; take(1, 5) = 1
                """);
        Script.says(check, sentence + " (also by rank alone)", MEDIA, """
                like(1) = 3; job(1, 1, 1, 9, 0) = 1; job(2, 1, 1, 5, 0) = 2; job(1, 1, 1, 5, 1) = 3
                take(1, 5) = 1; print(1, 1)
                # 1 is not below 1
                take(1, 5) = 2
                """);
    }

    private static void likeNumberStays(Check check) {
        String jobs = "like(1) = 3; job(2, 1, 1, 5, 0) = 1; job(1, 2, 2, 5, 1) = 2; job(1, 2, 2, 5, 2) = 3\n";
        Script.says(check, "the printer's LIKE number (behind a fault)", MEDIA, jobs, """
                take(1, 5) = 2; fault(1) = 1; take(1, 5) = 1
                """);
        Script.says(check, "the printer's LIKE number (behind a cancelled one)", MEDIA, jobs, """
                take(1, 5) = 2; cancel(2) = 1; take(1, 5) = 1
                """);
        Script.says(check, "the printer's LIKE number (behind one that is over)", MEDIA, jobs, """
                take(1, 5) = 2; print(1, 4) = 4; take(1, 5) = 1
                """);
        Script.says(check, "the printer's LIKE number (when there is none to take)", MEDIA, """
                like(1) = 3; take(1, 1) = 0; take(1, 2) = 0; take(1, 3) = 0
                job(2, 1, 1, 5, 0) = 1; job(1, 2, 2, 5, 1) = 2
                take(1, 5) = 2
                """);
        Script.says(check, "the printer's LIKE number (1 stays 1 when there is none to take)", MEDIA, """
                like(1) = 3; job(1, 1, 1, 5, 0) = 1; take(1, 0) = 1; print(1, 1) = 1; take(1, 0) = 0; take(1, 1) = 0
                job(2, 1, 1, 5, 0) = 2; job(1, 1, 1, 5, 1) = 3
                take(1, 1) = 2
                """);
        Script.says(check, "the printer's LIKE number (behind a bound that was set again)", MEDIA, jobs, """
                take(1, 5) = 2; fault(1) = 1; like(1) = 1; take(1, 5) = 1
                """);
        Script.says(check, "the printer's LIKE number (each has its own)", MEDIA, jobs, """
                printer(0, 1) = 2
                take(1, 5) = 2; take(2, 5) = 3; fault(1) = 1; take(1, 5) = 1
                """);
    }
}
