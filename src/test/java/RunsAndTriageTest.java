/** Promises 7 to 9 in ordinary use; their boundary cases are in EdgesOfRunsTest. */
final class RunsAndTriageTest {
    public static void main(String[] args) {
        Cases.run(RunsAndTriageTest.class);
    }

    static void promise7Record(Check check) {
        FlakeTriage x = Make.plain(2, 2);
        check.due("a run that passed", x.record(0, 0, true), 1);
        check.due("another that passed", x.record(0, 0, true), 1);
        check.due("one that failed behind them", x.record(0, 0, false), 3);
        check.due("one that passed behind that", x.record(0, 0, true), 3);
        check.due("a run that failed", x.record(0, 1, false), 2);
        check.due("another that failed", x.record(0, 1, false), 2);
        check.due("one that passed behind them", x.record(0, 1, true), 3);
        check.due("a run of another test", x.record(1, 0, false), 2);
        check.due("runs(0)", x.runs(0), 7);
        check.due("runs(1)", x.runs(1), 1);
    }

    static void promise8Triage(Check check) {
        FlakeTriage x = Make.plain(4, 3);
        check.due("triage(0, 0, 3)", x.triage(0, 0, 3), 3);
        check.due("suspects(0)", x.suspects(0), 14);
        check.due("triage(1, 2, 3)", x.triage(1, 2, 3), 1);
        x.record(2, 1, true);
        check.due("triage(2, 0, 3) with a run", x.triage(2, 0, 3), 2);
    }

    static void promise8TriageInPlaceOfOne(Check check) {
        FlakeTriage x = Make.inQueue(5, 2);
        check.due("triage(0, 1, 4) in place of one", x.triage(0, 1, 4), 3);
        check.due("suspects(0)", x.suspects(0), 28);
        check.due("queued()", x.queued(), 2);
        x.newDay(2);
        check.due("take() of the test that stayed first", x.take(), 0);
        check.due("take() of the other", x.take(), 1);
    }

    static void promise9Close(Check check) {
        FlakeTriage x = Make.plain(4, 1);
        x.triage(0, 0, 3);
        check.due("close with three candidates", x.close(0), -1);
        x.record(0, 1, true);
        x.record(0, 2, false);
        x.triage(0, 0, 3);
        check.due("close with one candidate", x.close(0), 2);
        x.record(0, 2, true);
        x.triage(0, 0, 3);
        check.due("close with none", x.close(0), -1);
        x.triage(0, 0, 1);
        x.record(0, 1, true);
        check.due("close with a suspect that is none", x.close(0), -1);
    }

    static void promise9CloseLeavesTheQueue(Check check) {
        FlakeTriage x = Make.inQueue(4, 3);
        x.close(1);
        check.due("queued() after close(1)", x.queued(), 2);
        x.newDay(3);
        check.due("take() behind close", x.take(), 0);
        check.due("take() past the closed one", x.take(), 2);
        check.due("take() of the first again", x.take(), 0);
        x.triage(1, 0, 3);
        check.due("queued() with the closed one in triage again", x.queued(), 2);
        check.due("enqueue(1) then", x.enqueue(1), 3);
        x.triage(0, 0, 1);
        check.due("close(0) in the queue", x.close(0), 1);
        check.due("queued() then", x.queued(), 2);
    }
}
