/** Promises 7 to 9: record, triage, close. */
final class RunsAndTriageTest {
    private static final Class<IndexOutOfBoundsException> NO_SUCH = IndexOutOfBoundsException.class;
    private static final Class<IllegalArgumentException> BAD_VALUE = IllegalArgumentException.class;
    private static final Class<IllegalStateException> NOT_NOW = IllegalStateException.class;

    private static final Check check = new Check();

    public static void main(String[] args) {
        promise7Record();
        promise7RecordRefuses();
        promise7TwoHundredRuns();
        promise8Triage();
        promise8TriageInPlaceOfOne();
        promise8TriageRefuses();
        promise9Close();
        promise9CloseLeavesTheQueue();
        promise9CloseRefuses();
        check.end();
    }

    private static void promise7Record() {
        FlakeTriage x = Make.plain(2, 2);
        check.due("a run that passed", x.record(0, 0, true), 1);
        check.due("another that passed", x.record(0, 0, true), 1);
        check.due("one that failed behind them", x.record(0, 0, false), 3);
        check.due("one that passed behind that", x.record(0, 0, true), 3);
        check.due("a run that failed", x.record(0, 1, false), 2);
        check.due("another that failed", x.record(0, 1, false), 2);
        check.due("one that passed behind them", x.record(0, 1, true), 3);
        check.due("a run of another test", x.record(1, 0, false), 2);
        check.due("runs(0)", x.runs(0), 7);
        check.due("runs(1)", x.runs(1), 1);
    }

    private static void promise7RecordRefuses() {
        FlakeTriage x = Make.plain(2, 1);
        x.record(0, 1, true);
        check.refuses(x, "record(-1, 0, true)", NO_SUCH, () -> x.record(-1, 0, true));
        check.refuses(x, "record(1, 0, true)", NO_SUCH, () -> x.record(1, 0, true));
        check.refuses(x, "record(0, -1, true)", NO_SUCH, () -> x.record(0, -1, true));
        check.refuses(x, "record(0, 2, false)", NO_SUCH, () -> x.record(0, 2, false));
        check.refuses(x, "record(least, least, true)", NO_SUCH,
                () -> x.record(Integer.MIN_VALUE, Integer.MIN_VALUE, true));
        check.refuses(x, "record(greatest, greatest, true)", NO_SUCH,
                () -> x.record(Integer.MAX_VALUE, Integer.MAX_VALUE, true));
    }

    private static void promise7TwoHundredRuns() {
        FlakeTriage x = Make.plain(2, 2);
        Make.record(x, 199, 0, 0, true);
        check.due("run 200", x.record(0, 1, false), 2);
        check.refuses(x, "run 201", NOT_NOW, () -> x.record(0, 0, false));
        check.refuses(x, "run 201 at the other commit", NOT_NOW, () -> x.record(0, 1, true));
        check.refuses(x, "run 201 at no commit", NO_SUCH, () -> x.record(0, 2, true));
        check.due("runs(0)", x.runs(0), 200);
        check.due("verdict(0, 0)", x.verdict(0, 0), 1);
        check.due("a run of the other test", x.record(1, 0, true), 1);
    }

    private static void promise8Triage() {
        FlakeTriage x = Make.plain(4, 3);
        check.due("triage(0, 0, 3)", x.triage(0, 0, 3), 3);
        check.due("suspects(0)", x.suspects(0), 14);
        check.due("triage(1, 2, 3)", x.triage(1, 2, 3), 1);
        x.record(2, 1, true);
        check.due("triage(2, 0, 3) with a run", x.triage(2, 0, 3), 2);
        FlakeTriage all = Make.plain(40, 12);
        check.due("triage(11, 0, 39)", all.triage(11, 0, 39), 39);
        check.due("triage(11, 38, 39)", all.triage(11, 38, 39), 1);
    }

    private static void promise8TriageInPlaceOfOne() {
        FlakeTriage x = Make.plain(5, 2);
        x.triage(0, 0, 2);
        x.triage(1, 0, 2);
        x.enqueue(0);
        x.enqueue(1);
        check.due("triage(0, 1, 4) in place of one", x.triage(0, 1, 4), 3);
        check.due("suspects(0)", x.suspects(0), 28);
        check.due("queued()", x.queued(), 2);
        check.raises("enqueue(0) of a test that stayed in the queue", NOT_NOW, () -> x.enqueue(0));
        x.newDay(2);
        check.due("take() of the test that stayed first", x.take(), 0);
        check.due("take() of the other", x.take(), 1);
    }

    private static void promise8TriageRefuses() {
        FlakeTriage x = Make.plain(3, 1);
        check.refuses(x, "triage(-1, 0, 1)", NO_SUCH, () -> x.triage(-1, 0, 1));
        check.refuses(x, "triage(1, 0, 1)", NO_SUCH, () -> x.triage(1, 0, 1));
        check.refuses(x, "triage(0, 0, 0)", BAD_VALUE, () -> x.triage(0, 0, 0));
        FlakeTriage y = Make.plain(3, 1);
        y.triage(0, 0, 1);
        check.refuses(y, "triage(0, -1, 1)", NO_SUCH, () -> y.triage(0, -1, 1));
        check.refuses(y, "triage(0, 0, 3)", NO_SUCH, () -> y.triage(0, 0, 3));
        check.refuses(y, "triage(0, 3, 0)", NO_SUCH, () -> y.triage(0, 3, 0));
        check.refuses(y, "triage(0, 0, -1)", NO_SUCH, () -> y.triage(0, 0, -1));
        check.refuses(y, "triage(0, 2, 2)", BAD_VALUE, () -> y.triage(0, 2, 2));
        check.refuses(y, "triage(0, 2, 1)", BAD_VALUE, () -> y.triage(0, 2, 1));
        check.refuses(y, "triage(1, 2, 1)", NO_SUCH, () -> y.triage(1, 2, 1));
    }

    private static void promise9Close() {
        FlakeTriage x = Make.plain(4, 1);
        x.triage(0, 0, 3);
        check.due("close with three candidates", x.close(0), -1);
        check.raises("suspects(0) of a closed triage", NOT_NOW, () -> x.suspects(0));
        x.record(0, 1, true);
        x.record(0, 2, false);
        x.triage(0, 0, 3);
        check.due("close with one candidate", x.close(0), 2);
        x.record(0, 2, true);
        x.triage(0, 0, 3);
        check.due("close with none", x.close(0), -1);
        x.triage(0, 0, 1);
        x.record(0, 1, true);
        check.due("close with a suspect that is none", x.close(0), -1);
        FlakeTriage last = Make.plain(40, 1);
        last.triage(0, 38, 39);
        check.due("close with the last commit", last.close(0), 39);
    }

    private static void promise9CloseLeavesTheQueue() {
        FlakeTriage x = Make.plain(4, 3);
        for (int test = 0; test < 3; test++) {
            x.triage(test, 0, 3);
            x.enqueue(test);
        }
        x.close(1);
        check.due("queued() after close(1)", x.queued(), 2);
        x.newDay(3);
        check.due("take() behind close", x.take(), 0);
        check.due("take() past the closed one", x.take(), 2);
        check.due("take() of the first again", x.take(), 0);
        x.triage(1, 0, 3);
        check.due("queued() with the closed one in triage again", x.queued(), 2);
        check.due("enqueue(1) then", x.enqueue(1), 3);
        x.triage(0, 0, 1);
        check.due("close(0) in the queue", x.close(0), 1);
        check.due("queued() then", x.queued(), 2);
    }

    private static void promise9CloseRefuses() {
        FlakeTriage x = Make.plain(3, 2);
        x.triage(0, 0, 2);
        x.enqueue(0);
        check.refuses(x, "close(-1)", NO_SUCH, () -> x.close(-1));
        check.refuses(x, "close(2)", NO_SUCH, () -> x.close(2));
        check.refuses(x, "close(1)", NOT_NOW, () -> x.close(1));
        x.close(0);
        check.refuses(x, "close(0) again", NOT_NOW, () -> x.close(0));
    }
}
