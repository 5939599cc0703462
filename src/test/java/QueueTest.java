/** Promises 10 to 12: enqueue, newDay, take. */
final class QueueTest {
    private static final Class<IndexOutOfBoundsException> NO_SUCH = IndexOutOfBoundsException.class;
    private static final Class<IllegalArgumentException> BAD_VALUE = IllegalArgumentException.class;
    private static final Class<IllegalStateException> NOT_NOW = IllegalStateException.class;

    private static final Check check = new Check();

    public static void main(String[] args) {
        promise10Enqueue();
        promise10EnqueueRefuses();
        promise11NewDay();
        promise12TakeGoesRound();
        promise12TakeLeaves();
        promise12TakeRefuses();
        check.end();
    }

    private static FlakeTriage allInTriage(int commits, int tests) {
        FlakeTriage x = Make.plain(commits, tests);
        for (int test = 0; test < tests; test++) {
            x.triage(test, 0, commits - 1);
        }
        return x;
    }

    private static void promise10Enqueue() {
        FlakeTriage x = allInTriage(3, 12);
        for (int i = 0; i < 12; i++) {
            check.due("enqueue", x.enqueue(11 - i), i + 1);
        }
        x.newDay(13);
        for (int i = 0; i < 12; i++) {
            check.due("take() in the order of the queue", x.take(), 11 - i);
        }
        check.due("take() of the first again", x.take(), 11);
    }

    private static void promise10EnqueueRefuses() {
        FlakeTriage x = Make.plain(3, 2);
        x.triage(0, 0, 2);
        check.refuses(x, "enqueue(-1)", NO_SUCH, () -> x.enqueue(-1));
        check.refuses(x, "enqueue(2)", NO_SUCH, () -> x.enqueue(2));
        check.refuses(x, "enqueue(1), not in triage", NOT_NOW, () -> x.enqueue(1));
        x.enqueue(0);
        check.refuses(x, "enqueue(0) again", NOT_NOW, () -> x.enqueue(0));
        check.due("queued()", x.queued(), 1);
    }

    private static void promise11NewDay() {
        FlakeTriage x = allInTriage(3, 1);
        x.enqueue(0);
        check.due("newDay(100)", x.newDay(100), 0);
        x.take();
        check.due("newDay(7) after one taking", x.newDay(7), 99);
        check.due("newDay(0)", x.newDay(0), 7);
        check.due("newDay(2) after a day of 0", x.newDay(2), 0);
        int[] refused = {-1, 101, Integer.MIN_VALUE, Integer.MAX_VALUE};
        for (int budget : refused) {
            check.refuses(x, "newDay(" + budget + ")", BAD_VALUE, () -> x.newDay(budget));
        }
        check.due("newDay(1) after what was refused", x.newDay(1), 2);
        check.due("queued() on a new day", x.queued(), 1);
    }

    private static void promise12TakeGoesRound() {
        FlakeTriage x = allInTriage(3, 2);
        x.enqueue(1);
        x.enqueue(0);
        x.newDay(5);
        check.due("take()", x.take(), 1);
        check.due("budget()", x.budget(), 4);
        check.due("queued()", x.queued(), 2);
        check.due("take()", x.take(), 0);
        check.due("take()", x.take(), 1);
        check.due("budget()", x.budget(), 2);
    }

    private static void promise12TakeLeaves() {
        FlakeTriage x = allInTriage(3, 3);
        x.triage(0, 0, 1);
        x.record(1, 0, false);
        x.enqueue(0);
        x.enqueue(1);
        x.enqueue(2);
        x.newDay(10);
        check.due("take() of a test with one candidate", x.take(), 0);
        check.due("queued()", x.queued(), 2);
        check.due("candidates(0), still in triage", x.candidates(0), 2);
        check.due("take() of a test without one", x.take(), 1);
        check.due("queued()", x.queued(), 1);
        check.due("candidates(1), still in triage", x.candidates(1), 0);
        check.due("take() of a test with two", x.take(), 2);
        check.due("queued()", x.queued(), 1);
        check.due("budget()", x.budget(), 7);
        check.due("enqueue(0) of a test that left", x.enqueue(0), 2);
        check.due("take()", x.take(), 2);
        check.due("take()", x.take(), 0);
    }

    private static void promise12TakeRefuses() {
        FlakeTriage full = allInTriage(3, 12);
        full.newDay(1);
        check.raises("take() without queue, 12 tests", NOT_NOW, () -> full.take());
        FlakeTriage x = allInTriage(3, 1);
        check.refuses(x, "take() without queue and budget", NOT_NOW, () -> x.take());
        x.newDay(1);
        check.refuses(x, "take() without queue", NOT_NOW, () -> x.take());
        x.newDay(0);
        x.enqueue(0);
        check.refuses(x, "take() without budget", NOT_NOW, () -> x.take());
        x.newDay(1);
        check.due("take() with a budget of 1", x.take(), 0);
        check.refuses(x, "take() with the budget used", NOT_NOW, () -> x.take());
        x.triage(0, 0, 1);
        x.newDay(2);
        x.take();
        check.refuses(x, "take() when the queue became empty", NOT_NOW, () -> x.take());
        check.due("budget()", x.budget(), 1);
    }
}
