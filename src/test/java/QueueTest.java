/** Promises 10 to 12 in ordinary use; their boundary cases are in EdgesOfQueueTest. */
final class QueueTest {
    public static void main(String[] args) {
        Cases.run(QueueTest.class);
    }

    static void promise10Enqueue(Check check) {
        FlakeTriage x = Make.inTriage(3, 4);
        x.newDay(5);
        check.due("enqueue(2)", x.enqueue(2), 1);
        check.due("enqueue(0)", x.enqueue(0), 2);
        check.due("enqueue(3)", x.enqueue(3), 3);
        check.due("take()", x.take(), 2);
        check.due("enqueue(1) behind the one that was taken", x.enqueue(1), 4);
        check.due("take()", x.take(), 0);
        check.due("take()", x.take(), 3);
        check.due("take()", x.take(), 2);
        check.due("take()", x.take(), 1);
    }

    static void promise11NewDay(Check check) {
        FlakeTriage x = Make.inQueue(3, 1);
        check.due("newDay(20)", x.newDay(20), 0);
        x.take();
        check.due("newDay(7) after one taking", x.newDay(7), 19);
        check.due("newDay(8)", x.newDay(8), 7);
        check.due("budget()", x.budget(), 8);
    }

    static void promise12TakeGoesRound(Check check) {
        FlakeTriage x = Make.inTriage(3, 2);
        x.enqueue(1);
        x.enqueue(0);
        x.newDay(5);
        check.due("take()", x.take(), 1);
        check.due("budget()", x.budget(), 4);
        check.due("queued()", x.queued(), 2);
        check.due("take()", x.take(), 0);
        check.due("take()", x.take(), 1);
        check.due("budget()", x.budget(), 2);
    }

    static void promise12TakeLeaves(Check check) {
        FlakeTriage x = Make.inTriage(3, 3);
        x.triage(0, 0, 1);
        x.record(1, 0, false);
        x.enqueue(0);
        x.enqueue(1);
        x.enqueue(2);
        x.newDay(10);
        check.due("take() of a test with one candidate", x.take(), 0);
        check.due("queued()", x.queued(), 2);
        check.due("candidates(0), still in triage", x.candidates(0), 2);
        check.due("take() of a test without one", x.take(), 1);
        check.due("queued()", x.queued(), 1);
        check.due("candidates(1), still in triage", x.candidates(1), 0);
        check.due("take() of a test with two", x.take(), 2);
        check.due("queued()", x.queued(), 1);
        check.due("budget()", x.budget(), 7);
        check.due("enqueue(0) of a test that left", x.enqueue(0), 2);
        check.due("take()", x.take(), 2);
        check.due("take()", x.take(), 0);
    }
}
