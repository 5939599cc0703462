import java.util.List;

/** The boundary cases of promises 10 to 12: enqueue, newDay, take. */
final class EdgesOfQueueTest {
    private static final int LEAST = Integer.MIN_VALUE;
    private static final int GREATEST = Integer.MAX_VALUE;

    public static void main(String[] args) {
        Cases.run(EdgesOfQueueTest.class);
    }

    // ---- promise 10: a test in triage that is not in the queue yet

    static void promise10IntoAnEmptyQueue(Check check) {
        FlakeTriage x = Make.inTriage(3, 2);
        check.due("enqueue(1)", x.enqueue(1), 1);
        check.due("queued()", x.queued(), 1);
    }

    static void promise10TheTwelfthInTheQueue(Check check) {
        FlakeTriage x = Make.inTriage(3, 12);
        for (int test = 11; test >= 0; test--) {
            check.due("enqueue(" + test + ")", x.enqueue(test), 12 - test);
        }
        x.newDay(12);
        for (int test = 11; test >= 0; test--) {
            check.due("take()", x.take(), test);
        }
    }

    static void promise10TestTooSmall(Check check) {
        check.noSuch(Make.ANY, "enqueue(-1)", x -> x.enqueue(-1));
        check.noSuch(Make.ANY, "enqueue(least)", x -> x.enqueue(LEAST));
    }

    static void promise10TestTooLarge(Check check) {
        check.noSuch(Make.ANY, "enqueue(tests())", x -> x.enqueue(x.tests()));
        check.noSuch(Make.ANY, "enqueue(12)", x -> x.enqueue(12));
        check.noSuch(Make.ANY, "enqueue(greatest)", x -> x.enqueue(GREATEST));
    }

    static void promise10NotInTriage(Check check) {
        check.notNow(List.of(Make::livedIn), "enqueue(3)", x -> x.enqueue(3));
        check.notNow(Make.FULL, "enqueue(10)", x -> x.enqueue(10));
        check.notNow(Make.FULL, "enqueue(11)", x -> x.enqueue(11));
        check.notNow(List.of(() -> Make.plain(3, 1)), "enqueue(0)", x -> x.enqueue(0));
    }

    static void promise10InTheQueueAlready(Check check) {
        check.notNow(List.of(Make::livedIn), "enqueue(0), the first", x -> x.enqueue(0));
        check.notNow(List.of(Make::livedIn), "enqueue(2), the second", x -> x.enqueue(2));
        check.notNow(List.of(Make::livedIn), "enqueue(4), the last", x -> x.enqueue(4));
        for (int i = 0; i < 12; i++) {
            int test = i;
            check.notNow(List.of(() -> Make.inQueue(3, 12)), "enqueue(" + test + ")", x -> x.enqueue(test));
        }
    }

    static void promise10TakenAndStillInTheQueue(Check check) {
        check.notNow(List.of(EdgesOfQueueTest::onlyOneTaken), "enqueue(0)", x -> x.enqueue(0));
    }

    private static FlakeTriage onlyOneTaken() {
        FlakeTriage x = Make.inQueue(3, 1);
        x.newDay(3);
        x.take();
        return x;
    }

    static void promise10AgainBehindTake(Check check) {
        FlakeTriage x = Make.inQueue(2, 2);
        x.newDay(3);
        check.due("take()", x.take(), 0);
        check.due("enqueue(0)", x.enqueue(0), 2);
        check.due("take()", x.take(), 1);
        check.due("take()", x.take(), 0);
        check.due("queued()", x.queued(), 0);
    }

    static void promise10WithoutAnyCandidate(Check check) {
        FlakeTriage x = Make.plain(3, 0);
        x.addTest(2);
        x.triage(0, 0, 2);
        check.due("enqueue(0)", x.enqueue(0), 1);
    }

    // ---- promise 11: a budget of 0 to 100

    static void promise11TheLeastBudget(Check check) {
        FlakeTriage x = new FlakeTriage();
        x.newDay(4);
        check.due("newDay(0)", x.newDay(0), 4);
        check.due("budget()", x.budget(), 0);
    }

    static void promise11TheGreatestBudget(Check check) {
        FlakeTriage x = new FlakeTriage();
        check.due("newDay(100)", x.newDay(100), 0);
        check.due("budget()", x.budget(), 100);
        check.due("newDay(0)", x.newDay(0), 100);
    }

    static void promise11BudgetTooSmall(Check check) {
        check.badValue(Make.ANY, "newDay(-1)", x -> x.newDay(-1));
        check.badValue(Make.ANY, "newDay(-100)", x -> x.newDay(-100));
        check.badValue(Make.ANY, "newDay(least)", x -> x.newDay(LEAST));
    }

    static void promise11BudgetTooLarge(Check check) {
        check.badValue(Make.ANY, "newDay(101)", x -> x.newDay(101));
        check.badValue(Make.ANY, "newDay(200)", x -> x.newDay(200));
        check.badValue(Make.ANY, "newDay(greatest)", x -> x.newDay(GREATEST));
    }

    static void promise11NothingWasUsed(Check check) {
        FlakeTriage x = new FlakeTriage();
        x.newDay(7);
        check.due("newDay(5)", x.newDay(5), 7);
        check.due("budget(), and nothing of the day before", x.budget(), 5);
    }

    static void promise11AllWasUsed(Check check) {
        FlakeTriage x = Make.inQueue(3, 1);
        x.newDay(2);
        x.take();
        check.due("budget() behind one taking", x.budget(), 1);
        x.take();
        check.due("newDay(3)", x.newDay(3), 0);
        check.due("budget()", x.budget(), 3);
    }

    static void promise11TheQueueStays(Check check) {
        FlakeTriage x = Make.inQueue(3, 3);
        x.newDay(1);
        check.due("take()", x.take(), 0);
        x.newDay(3);
        check.due("queued()", x.queued(), 3);
        check.due("take()", x.take(), 1);
        check.due("take()", x.take(), 2);
        check.due("take()", x.take(), 0);
    }

    // ---- promise 12: an empty queue, nothing left of the budget, the number of candidates

    static void promise12AnEmptyQueue(Check check) {
        check.notNow(List.of(EdgesOfQueueTest::budgetAlone), "take()", x -> x.take());
    }

    private static FlakeTriage budgetAlone() {
        FlakeTriage x = Make.inTriage(3, 12);
        x.newDay(100);
        return x;
    }

    static void promise12AQueueThatBecameEmpty(Check check) {
        check.notNow(List.of(EdgesOfQueueTest::allTaken), "take()", x -> x.take());
        check.notNow(List.of(EdgesOfQueueTest::allClosed), "take()", x -> x.take());
    }

    private static FlakeTriage allTaken() {
        FlakeTriage x = Make.inQueue(2, 2);
        x.newDay(100);
        x.take();
        x.take();
        return x;
    }

    private static FlakeTriage allClosed() {
        FlakeTriage x = Make.inQueue(3, 2);
        x.newDay(100);
        x.close(0);
        x.close(1);
        return x;
    }

    static void promise12NothingLeftOfTheBudget(Check check) {
        check.notNow(List.of(() -> Make.inQueue(3, 3)), "take() ahead of the first day", x -> x.take());
        check.notNow(List.of(EdgesOfQueueTest::dayOfNothing), "take() on a day of 0", x -> x.take());
        check.notNow(List.of(EdgesOfQueueTest::budgetUsed), "take() with all used", x -> x.take());
    }

    private static FlakeTriage dayOfNothing() {
        FlakeTriage x = Make.inQueue(3, 3);
        x.newDay(5);
        x.newDay(0);
        return x;
    }

    private static FlakeTriage budgetUsed() {
        FlakeTriage x = Make.inQueue(3, 3);
        x.newDay(2);
        x.take();
        x.take();
        return x;
    }

    static void promise12NeitherQueueNorBudget(Check check) {
        check.notNow(List.of(FlakeTriage::new), "take() of a new object", x -> x.take());
        check.notNow(List.of(() -> Make.inTriage(3, 12)), "take() of tests in triage alone", x -> x.take());
    }

    static void promise12TheLastOfTheBudget(Check check) {
        FlakeTriage x = Make.inQueue(3, 2);
        x.newDay(1);
        check.due("take()", x.take(), 0);
        check.due("budget()", x.budget(), 0);
        check.due("queued()", x.queued(), 2);
    }

    static void promise12AllOfTheGreatestBudget(Check check) {
        FlakeTriage x = Make.inQueue(3, 7);
        x.newDay(100);
        for (int i = 0; i < 100; i++) {
            check.due("take()", x.take(), i % 7);
            check.due("budget()", x.budget(), 99 - i);
        }
        check.notNow(List.of(() -> {
            FlakeTriage used = Make.inQueue(3, 7);
            used.newDay(100);
            for (int i = 0; i < 100; i++) {
                used.take();
            }
            return used;
        }), "take() number 101", object -> object.take());
    }

    static void promise12TwoCandidatesGoToTheEnd(Check check) {
        FlakeTriage x = Make.inQueue(3, 3);
        x.newDay(4);
        check.due("take()", x.take(), 0);
        check.due("queued()", x.queued(), 3);
        check.due("take()", x.take(), 1);
        check.due("take()", x.take(), 2);
        check.due("take()", x.take(), 0);
    }

    static void promise12OneCandidateLeaves(Check check) {
        FlakeTriage x = Make.inQueue(2, 3);
        x.newDay(4);
        check.due("take()", x.take(), 0);
        check.due("queued()", x.queued(), 2);
        check.due("candidates(0), still in triage", x.candidates(0), 2);
        check.due("take()", x.take(), 1);
    }

    static void promise12NoCandidateLeaves(Check check) {
        FlakeTriage x = Make.inQueue(4, 2);
        x.newDay(4);
        x.record(0, 0, false);
        check.due("take()", x.take(), 0);
        check.due("queued()", x.queued(), 1);
        check.due("candidates(0), still in triage", x.candidates(0), 0);
        check.due("suspects(0)", x.suspects(0), 14);
        check.due("close(0)", x.close(0), -1);
    }

    static void promise12TheOnlyOneGoesToTheEnd(Check check) {
        FlakeTriage x = Make.inQueue(3, 1);
        x.newDay(3);
        for (int i = 0; i < 3; i++) {
            check.due("take()", x.take(), 0);
            check.due("queued()", x.queued(), 1);
        }
    }

    static void promise12TheOnlyOneLeaves(Check check) {
        FlakeTriage x = Make.inQueue(2, 1);
        x.newDay(3);
        check.due("take()", x.take(), 0);
        check.due("queued()", x.queued(), 0);
        check.due("budget()", x.budget(), 2);
    }

    static void promise12CandidatesAsTheyAreThen(Check check) {
        FlakeTriage x = Make.inQueue(3, 2);
        x.newDay(5);
        x.record(0, 1, true);
        x.record(1, 1, true);
        check.due("take() with one candidate", x.take(), 0);
        check.due("queued()", x.queued(), 1);
        x.setNoise(1);
        check.due("take() with two again, by the noise", x.take(), 1);
        check.due("queued()", x.queued(), 1);
    }

    static void promise12RoundAndRoundAFullQueue(Check check) {
        FlakeTriage x = Make.inQueue(3, 12);
        x.newDay(100);
        for (int i = 0; i < 100; i++) {
            check.due("take()", x.take(), i % 12);
        }
        check.due("queued()", x.queued(), 12);
    }

    static void promise12LeavingAndComingBackManyTimes(Check check) {
        FlakeTriage x = Make.inQueue(2, 12);
        x.newDay(100);
        for (int i = 0; i < 100; i++) {
            check.due("take()", x.take(), i % 12);
            check.due("enqueue()", x.enqueue(i % 12), 12);
        }
    }

    static void promise12TheOthersKeepTheirOrder(Check check) {
        FlakeTriage x = Make.inQueue(4, 4);
        x.newDay(100);
        x.triage(1, 0, 1);
        x.triage(2, 2, 3);
        int[] due = {0, 1, 2, 3, 0, 3, 0, 3};
        for (int test : due) {
            check.due("take()", x.take(), test);
        }
        check.due("queued()", x.queued(), 2);
    }

    static void promise12TheFirstAndTheLastTest(Check check) {
        FlakeTriage x = Make.inTriage(3, 12);
        x.newDay(3);
        x.enqueue(11);
        x.enqueue(0);
        check.due("take()", x.take(), 11);
        check.due("take()", x.take(), 0);
        check.due("take()", x.take(), 11);
    }
}
