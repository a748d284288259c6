public final class Promise15LikeTest {
    public static void main(String[] args) {
        Check check = new Check("promise 15, like");
        PrintQueue q = new PrintQueue();
        Class<IllegalArgumentException> want = IllegalArgumentException.class;
        check.due("like(0)", 3, () -> q.like(0));
        check.due("like(100)", 0, () -> q.like(100));
        check.refused("like(-1)", want, () -> q.like(-1));
        check.refused("like(101)", want, () -> q.like(101));
        check.refused("like(MIN)", want, () -> q.like(Integer.MIN_VALUE));
        check.refused("like(MAX)", want, () -> q.like(Integer.MAX_VALUE));
        check.due("they changed nothing: like(7)", 100, () -> q.like(7));
        check.due("like(7)", 7, () -> q.like(7));
        for (int bound = 0; bound <= 6; bound++) {
            likeOnesInARow(check, bound);
        }
        boundChangesMeanwhile(check);
        check.end();
    }

    private static PrintQueue oneOfAnotherMedia(int like) {
        PrintQueue q = new PrintQueue();
        q.printer(0, 1);
        q.ticket(0, 1, 0);
        q.ticket(1, 1, 0);
        q.job(2, 1, 1, 0, 0);
        for (int i = 0; i < like; i++) {
            q.job(1, 1, 1, 0, 0);
        }
        return q;
    }

    /** Job 1 has another media; behind so many like ones it is its turn. */
    private static void likeOnesInARow(Check check, int bound) {
        PrintQueue q = oneOfAnotherMedia(10);
        q.like(bound);
        for (int i = 0; i < bound; i++) {
            check.due("bound " + bound, i + 2, () -> q.take(1, 0));
            q.print(1, 1);
        }
        check.due("bound " + bound + " is reached", 1, () -> q.take(1, 0));
    }

    private static void boundChangesMeanwhile(Check check) {
        PrintQueue q = oneOfAnotherMedia(10);
        q.like(5);
        q.take(1, 0);
        q.print(1, 1);
        q.take(1, 0);
        q.print(1, 1);
        q.like(3);
        check.due("two were, the bound is 3", 4, () -> q.take(1, 0));
        q.fault(1);
        q.like(2);
        check.due("three were, the bound is 2", 1, () -> q.take(1, 0));
    }
}
