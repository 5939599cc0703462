import java.util.List;

/** The boundary cases of promises 7 to 9: record, triage, close. */
final class EdgesOfRunsTest {
    private static final int LEAST = Integer.MIN_VALUE;
    private static final int GREATEST = Integer.MAX_VALUE;

    public static void main(String[] args) {
        Cases.run(EdgesOfRunsTest.class);
    }

    // ---- promise 7: at most 200 runs of a test

    static void promise7TheFirstTestAndCommit(Check check) {
        FlakeTriage x = Make.plain(40, 12);
        check.due("record(0, 0, true)", x.record(0, 0, true), 1);
        check.due("verdict(0, 0)", x.verdict(0, 0), 1);
        check.due("verdict(0, 1)", x.verdict(0, 1), 0);
        check.due("verdict(1, 0)", x.verdict(1, 0), 0);
    }

    static void promise7TheLastTestAndCommit(Check check) {
        FlakeTriage x = Make.plain(40, 12);
        check.due("record(11, 39, false)", x.record(11, 39, false), 2);
        check.due("verdict(11, 39)", x.verdict(11, 39), 2);
        check.due("verdict(11, 38)", x.verdict(11, 38), 0);
        check.due("verdict(10, 39)", x.verdict(10, 39), 0);
    }

    static void promise7TestTooSmall(Check check) {
        check.noSuch(Make.ANY, "record(-1, 0, true)", x -> x.record(-1, 0, true));
        check.noSuch(Make.ANY, "record(least, 0, false)", x -> x.record(LEAST, 0, false));
    }

    static void promise7TestTooLarge(Check check) {
        check.noSuch(Make.ANY, "record(tests(), 0, true)", x -> x.record(x.tests(), 0, true));
        check.noSuch(Make.ANY, "record(12, 0, true)", x -> x.record(12, 0, true));
        check.noSuch(Make.ANY, "record(greatest, 0, false)", x -> x.record(GREATEST, 0, false));
    }

    static void promise7CommitTooSmall(Check check) {
        check.noSuch(Make.ANY, "record(0, -1, true)", x -> x.record(0, -1, true));
        check.noSuch(Make.ANY, "record(0, least, false)", x -> x.record(0, LEAST, false));
    }

    static void promise7CommitTooLarge(Check check) {
        check.noSuch(Make.ANY, "record(0, commits(), true)", x -> x.record(0, x.commits(), true));
        check.noSuch(Make.ANY, "record(0, 40, true)", x -> x.record(0, 40, true));
        check.noSuch(Make.ANY, "record(0, greatest, false)", x -> x.record(0, GREATEST, false));
    }

    static void promise7WithoutTestsOrCommits(Check check) {
        check.noSuch(List.of(() -> Make.plain(2, 0)), "record(0, 0, true)", x -> x.record(0, 0, true));
        check.noSuch(List.of(() -> Make.plain(0, 2)), "record(0, 0, true)", x -> x.record(0, 0, true));
    }

    static void promise7TheRun200(Check check) {
        FlakeTriage x = Make.plain(2, 1);
        Make.record(x, 199, 0, 0, true);
        check.due("record(0, 1, false)", x.record(0, 1, false), 2);
        check.due("runs(0)", x.runs(0), 200);
        check.due("verdict(0, 0)", x.verdict(0, 0), 1);
    }

    static void promise7OneRunTooMany(Check check) {
        check.notNow(List.of(Make::fullOfRuns), "record(1, 0, true)", x -> x.record(1, 0, true));
        check.notNow(List.of(Make::fullOfRuns), "record(1, 0, false)", x -> x.record(1, 0, false));
        check.notNow(List.of(Make::fullOfRuns), "record(1, 3, true)", x -> x.record(1, 3, true));
    }

    static void promise7OneRunTooManyAtACommitWithoutRuns(Check check) {
        check.notNow(List.of(EdgesOfRunsTest::allRunsAtOneCommit), "record(0, 1, true)", x -> x.record(0, 1, true));
    }

    private static FlakeTriage allRunsAtOneCommit() {
        FlakeTriage x = Make.plain(2, 1);
        Make.record(x, 200, 0, 0, true);
        return x;
    }

    static void promise7NoSuchCommitComesFirst(Check check) {
        check.noSuch(List.of(Make::fullOfRuns), "record(1, -1, true)", x -> x.record(1, -1, true));
        check.noSuch(List.of(Make::fullOfRuns), "record(1, 4, true)", x -> x.record(1, 4, true));
        check.noSuch(List.of(Make::fullOfRuns), "record(3, 0, true)", x -> x.record(3, 0, true));
    }

    static void promise7TheRunsOfTheOthersAreNotFull(Check check) {
        FlakeTriage x = Make.fullOfRuns();
        check.due("record(0, 0, true)", x.record(0, 0, true), 1);
        check.due("record(2, 0, false)", x.record(2, 0, false), 2);
        check.due("runs(0)", x.runs(0), 1);
        check.due("runs(2)", x.runs(2), 1);
    }

    static void promise7EachVerdictBecomesTheNext(Check check) {
        FlakeTriage x = Make.plain(4, 1);
        check.due("none, then passed", x.record(0, 0, true), 1);
        check.due("none, then failed", x.record(0, 1, false), 2);
        check.due("passed, then passed", x.record(0, 0, true), 1);
        check.due("failed, then failed", x.record(0, 1, false), 2);
        check.due("passed, then failed", x.record(0, 0, false), 3);
        check.due("failed, then passed", x.record(0, 1, true), 3);
        check.due("mixed, then passed", x.record(0, 0, true), 3);
        check.due("mixed, then failed", x.record(0, 1, false), 3);
    }

    static void promise7MixedByOneRunOf200(Check check) {
        FlakeTriage x = Make.plain(1, 2);
        Make.record(x, 199, 0, 0, true);
        check.due("record(0, 0, false)", x.record(0, 0, false), 3);
        Make.record(x, 199, 1, 0, false);
        check.due("record(1, 0, true)", x.record(1, 0, true), 3);
    }

    // ---- promise 8: a good commit and a later bad one

    static void promise8BadIsTheNextOne(Check check) {
        FlakeTriage x = Make.plain(3, 1);
        check.due("triage(0, 1, 2)", x.triage(0, 1, 2), 1);
        check.due("suspects(0)", x.suspects(0), 4);
    }

    static void promise8BadIsTheGoodOne(Check check) {
        check.badValue(Make.LIVED_IN, "triage(0, 0, 0)", x -> x.triage(0, 0, 0));
        check.badValue(Make.LIVED_IN, "triage(1, 6, 6)", x -> x.triage(1, 6, 6));
        check.badValue(Make.LIVED_IN, "triage(3, 3, 3)", x -> x.triage(3, 3, 3));
    }

    static void promise8BadIsEarlier(Check check) {
        check.badValue(Make.LIVED_IN, "triage(0, 1, 0)", x -> x.triage(0, 1, 0));
        check.badValue(Make.LIVED_IN, "triage(0, last, 0)", x -> x.triage(0, x.commits() - 1, 0));
        check.badValue(Make.LIVED_IN, "triage(3, 6, 5)", x -> x.triage(3, 6, 5));
    }

    static void promise8FromTheFirstToTheLastOfAll(Check check) {
        FlakeTriage x = Make.plain(40, 12);
        check.due("triage(11, 0, 39)", x.triage(11, 0, 39), 39);
        check.due("suspects(11)", x.suspects(11), (1L << 40) - 2);
    }

    static void promise8TheLastTwoOfAll(Check check) {
        FlakeTriage x = Make.plain(40, 12);
        check.due("triage(0, 38, 39)", x.triage(0, 38, 39), 1);
        check.due("suspects(0)", x.suspects(0), 1L << 39);
    }

    static void promise8TestTooSmall(Check check) {
        check.noSuch(Make.ANY, "triage(-1, 0, 1)", x -> x.triage(-1, 0, 1));
        check.noSuch(Make.ANY, "triage(least, 0, 1)", x -> x.triage(LEAST, 0, 1));
    }

    static void promise8TestTooLarge(Check check) {
        check.noSuch(Make.ANY, "triage(tests(), 0, 1)", x -> x.triage(x.tests(), 0, 1));
        check.noSuch(Make.ANY, "triage(12, 0, 1)", x -> x.triage(12, 0, 1));
        check.noSuch(Make.ANY, "triage(greatest, 0, 1)", x -> x.triage(GREATEST, 0, 1));
    }

    static void promise8GoodTooSmall(Check check) {
        check.noSuch(Make.ANY, "triage(0, -1, 1)", x -> x.triage(0, -1, 1));
        check.noSuch(Make.ANY, "triage(0, least, 1)", x -> x.triage(0, LEAST, 1));
    }

    static void promise8BadTooLarge(Check check) {
        check.noSuch(Make.ANY, "triage(0, 0, commits())", x -> x.triage(0, 0, x.commits()));
        check.noSuch(Make.ANY, "triage(0, 0, 40)", x -> x.triage(0, 0, 40));
        check.noSuch(Make.ANY, "triage(0, 0, greatest)", x -> x.triage(0, 0, GREATEST));
        check.noSuch(Make.ANY, "triage(0, least, greatest)", x -> x.triage(0, LEAST, GREATEST));
    }

    static void promise8NoSuchComesFirst(Check check) {
        check.noSuch(Make.ANY, "triage(-1, 1, 0)", x -> x.triage(-1, 1, 0));
        check.noSuch(Make.ANY, "triage(tests(), 0, 0)", x -> x.triage(x.tests(), 0, 0));
        check.noSuch(Make.ANY, "triage(0, 0, -1)", x -> x.triage(0, 0, -1));
        check.noSuch(Make.ANY, "triage(0, -1, -1)", x -> x.triage(0, -1, -1));
        check.noSuch(Make.ANY, "triage(0, commits(), 0)", x -> x.triage(0, x.commits(), 0));
        check.noSuch(Make.ANY, "triage(0, commits(), commits())", x -> x.triage(0, x.commits(), x.commits()));
        check.noSuch(Make.ANY, "triage(0, greatest, least)", x -> x.triage(0, GREATEST, LEAST));
    }

    static void promise8OneCommitIsNotEnough(Check check) {
        check.badValue(List.of(() -> Make.plain(1, 1)), "triage(0, 0, 0)", x -> x.triage(0, 0, 0));
        check.noSuch(List.of(() -> Make.plain(1, 1)), "triage(0, 0, 1)", x -> x.triage(0, 0, 1));
        check.noSuch(List.of(() -> Make.plain(0, 1)), "triage(0, 0, 1)", x -> x.triage(0, 0, 1));
    }

    static void promise8NoCandidates(Check check) {
        FlakeTriage x = Make.plain(3, 1);
        x.addTest(2);
        check.due("triage(1, 0, 2), nothing touches it", x.triage(1, 0, 2), 0);
        x.record(0, 0, false);
        check.due("triage(0, 0, 2), all contradicted", x.triage(0, 0, 2), 0);
    }

    static void promise8InPlaceOfOne(Check check) {
        FlakeTriage x = Make.plain(5, 2);
        x.triage(0, 0, 2);
        check.due("triage(0, 2, 4)", x.triage(0, 2, 4), 2);
        check.due("suspects(0)", x.suspects(0), 24);
        check.due("queued()", x.queued(), 0);
    }

    static void promise8StaysAtItsPlaceInTheQueue(Check check) {
        for (int again = 0; again < 3; again++) {
            FlakeTriage x = Make.inQueue(5, 3);
            x.newDay(10);
            x.triage(again, 1, 4);
            check.due("queued()", x.queued(), 3);
            for (int test = 0; test < 3; test++) {
                check.due("take() with " + again + " in triage again", x.take(), test);
            }
        }
    }

    static void promise8TheRunsStay(Check check) {
        FlakeTriage x = Make.fullOfRuns();
        check.due("triage(1, 0, 3) in place of one", x.triage(1, 0, 3), 1);
        check.due("runs(1)", x.runs(1), 200);
        check.due("verdict(1, 1)", x.verdict(1, 1), 1);
        check.due("verdict(1, 2)", x.verdict(1, 2), 2);
        check.due("contradictions(1, 2)", x.contradictions(1, 2), 0);
        check.due("contradictions(1, 3)", x.contradictions(1, 3), 60);
    }

    static void promise8InTriageAgainBehindClose(Check check) {
        FlakeTriage x = Make.inQueue(5, 2);
        x.close(0);
        check.due("triage(0, 0, 4)", x.triage(0, 0, 4), 4);
        check.due("queued()", x.queued(), 1);
        check.due("enqueue(0)", x.enqueue(0), 2);
    }

    // ---- promise 9: the candidate if there is just one, otherwise -1

    static void promise9NoCandidate(Check check) {
        FlakeTriage x = Make.inTriage(3, 2);
        x.record(0, 0, false);
        check.due("likeliest(0)", x.likeliest(0), 1);
        check.due("close(0), all contradicted", x.close(0), -1);
        x.addTest(2);
        x.triage(2, 0, 2);
        check.due("close(2), no suspect", x.close(2), -1);
    }

    static void promise9OneSuspectThatIsNoCandidate(Check check) {
        FlakeTriage x = Make.inTriage(2, 1);
        x.record(0, 1, true);
        check.due("close(0)", x.close(0), -1);
    }

    static void promise9OneCandidate(Check check) {
        FlakeTriage x = Make.inTriage(2, 1);
        check.due("close(0)", x.close(0), 1);
    }

    static void promise9OneCandidateOfManySuspects(Check check) {
        int[] culprits = {1, 2, 30, 31, 32, 33, 38, 39};
        for (int culprit : culprits) {
            FlakeTriage x = Make.inTriage(40, 1);
            x.record(0, culprit - 1, true);
            x.record(0, culprit, false);
            check.due("close(0)", x.close(0), culprit);
        }
    }

    static void promise9TwoCandidates(Check check) {
        FlakeTriage x = Make.inTriage(3, 1);
        check.due("close(0)", x.close(0), -1);
    }

    static void promise9OneCandidateWithNoise(Check check) {
        FlakeTriage x = Make.inTriage(3, 2);
        x.setNoise(1);
        x.record(0, 1, true);
        check.due("close(0), one run does not do", x.close(0), -1);
        Make.record(x, 2, 1, 1, true);
        x.record(1, 2, true);
        check.due("close(1), three runs against one, one against the other", x.close(1), 2);
    }

    static void promise9TestTooSmall(Check check) {
        check.noSuch(Make.ANY, "close(-1)", x -> x.close(-1));
        check.noSuch(Make.ANY, "close(least)", x -> x.close(LEAST));
    }

    static void promise9TestTooLarge(Check check) {
        check.noSuch(Make.ANY, "close(tests())", x -> x.close(x.tests()));
        check.noSuch(Make.ANY, "close(12)", x -> x.close(12));
        check.noSuch(Make.ANY, "close(greatest)", x -> x.close(GREATEST));
    }

    static void promise9NotInTriage(Check check) {
        check.notNow(List.of(Make::livedIn), "close(3)", x -> x.close(3));
        check.notNow(Make.FULL, "close(10)", x -> x.close(10));
        check.notNow(Make.FULL, "close(11)", x -> x.close(11));
    }

    static void promise9NoLongerInTriage(Check check) {
        check.notNow(List.of(EdgesOfRunsTest::firstClosed), "close(0)", x -> x.close(0));
        check.notNow(List.of(EdgesOfRunsTest::firstClosed), "suspects(0)", x -> x.suspects(0));
        check.notNow(List.of(EdgesOfRunsTest::firstClosed), "enqueue(0)", x -> x.enqueue(0));
    }

    private static FlakeTriage firstClosed() {
        FlakeTriage x = Make.inQueue(4, 3);
        x.close(0);
        return x;
    }

    static void promise9LeavesTheQueueFromEachPlace(Check check) {
        for (int closed = 0; closed < 4; closed++) {
            FlakeTriage x = Make.inQueue(4, 4);
            x.newDay(10);
            x.close(closed);
            check.due("queued()", x.queued(), 3);
            for (int test = 0; test < 4; test++) {
                if (test != closed) {
                    check.due("take() without " + closed, x.take(), test);
                }
            }
        }
    }

    static void promise9TheOnlyOneLeavesTheQueue(Check check) {
        FlakeTriage x = Make.inQueue(4, 1);
        x.newDay(10);
        x.close(0);
        check.due("queued()", x.queued(), 0);
        x.triage(0, 0, 3);
        check.due("enqueue(0)", x.enqueue(0), 1);
    }

    static void promise9LeavesAFullQueue(Check check) {
        FlakeTriage x = Make.inQueue(4, 12);
        x.close(11);
        x.close(0);
        check.due("queued()", x.queued(), 10);
        x.triage(0, 0, 3);
        x.triage(11, 0, 3);
        check.due("enqueue(0)", x.enqueue(0), 11);
        check.due("enqueue(11)", x.enqueue(11), 12);
    }

    static void promise9OneThatIsNotInTheQueue(Check check) {
        FlakeTriage x = Make.inTriage(4, 3);
        x.newDay(10);
        x.enqueue(2);
        x.enqueue(1);
        x.close(0);
        check.due("queued()", x.queued(), 2);
        check.due("take()", x.take(), 2);
        check.due("take()", x.take(), 1);
        check.due("take()", x.take(), 2);
    }

    static void promise9TheRunsStay(Check check) {
        FlakeTriage x = Make.inTriage(4, 1);
        x.record(0, 2, false);
        x.close(0);
        check.due("runs(0)", x.runs(0), 1);
        check.due("verdict(0, 2)", x.verdict(0, 2), 2);
        check.due("triage(0, 0, 3)", x.triage(0, 0, 3), 2);
    }
}
