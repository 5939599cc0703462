import java.util.List;

/** The boundary cases of promises 19 to 23: runs, verdict, failing, isQuarantined, broken. */
final class EdgesOfVerdictsTest {
    private static final int LEAST = Integer.MIN_VALUE;
    private static final int GREATEST = Integer.MAX_VALUE;

    public static void main(String[] args) {
        Cases.run(EdgesOfVerdictsTest.class);
    }

    // ---- promise 19: how many runs, at all commits

    static void promise19NoRuns(Check check) {
        FlakeTriage x = Make.plain(3, 3);
        x.record(1, 0, true);
        check.due("runs(0)", x.runs(0), 0);
        check.due("runs(2)", x.runs(2), 0);
    }

    static void promise19AllRuns(Check check) {
        FlakeTriage x = Make.plain(3, 1);
        for (int run = 1; run <= 200; run++) {
            x.record(0, run % 3, run % 2 == 0);
            check.due("runs(0)", x.runs(0), run);
        }
    }

    static void promise19AtTheFirstAndTheLastCommit(Check check) {
        FlakeTriage x = Make.plain(40, 12);
        x.record(11, 0, true);
        x.record(11, 39, true);
        check.due("runs(11)", x.runs(11), 2);
    }

    static void promise19TestTooSmall(Check check) {
        check.noSuch(Make.ANY, "runs(-1)", x -> x.runs(-1));
        check.noSuch(Make.ANY, "runs(least)", x -> x.runs(LEAST));
    }

    static void promise19TestTooLarge(Check check) {
        check.noSuch(Make.ANY, "runs(tests())", x -> x.runs(x.tests()));
        check.noSuch(Make.ANY, "runs(12)", x -> x.runs(12));
        check.noSuch(Make.ANY, "runs(greatest)", x -> x.runs(GREATEST));
    }

    // ---- promise 20: 0 no runs, 1 passed, 2 failed, 3 mixed

    static void promise20NoRuns(Check check) {
        FlakeTriage x = Make.plain(2, 2);
        x.record(0, 0, true);
        x.record(1, 1, false);
        check.due("verdict(0, 1), runs at another commit", x.verdict(0, 1), 0);
        check.due("verdict(1, 0), runs of another test", x.verdict(1, 0), 0);
    }

    static void promise20AllPassed(Check check) {
        FlakeTriage x = Make.plain(1, 1);
        x.record(0, 0, true);
        check.due("verdict(0, 0) by one run", x.verdict(0, 0), 1);
        Make.record(x, 199, 0, 0, true);
        check.due("verdict(0, 0) by 200 runs", x.verdict(0, 0), 1);
    }

    static void promise20AllFailed(Check check) {
        FlakeTriage x = Make.plain(1, 1);
        x.record(0, 0, false);
        check.due("verdict(0, 0) by one run", x.verdict(0, 0), 2);
        Make.record(x, 199, 0, 0, false);
        check.due("verdict(0, 0) by 200 runs", x.verdict(0, 0), 2);
    }

    static void promise20MixedByTwoRuns(Check check) {
        FlakeTriage x = Make.plain(2, 1);
        x.record(0, 0, true);
        x.record(0, 0, false);
        x.record(0, 1, false);
        x.record(0, 1, true);
        check.due("verdict(0, 0), passed first", x.verdict(0, 0), 3);
        check.due("verdict(0, 1), failed first", x.verdict(0, 1), 3);
    }

    static void promise20MixedByOneRunOf200(Check check) {
        FlakeTriage x = Make.plain(1, 2);
        Make.record(x, 199, 0, 0, true);
        x.record(0, 0, false);
        check.due("verdict(0, 0), one failed", x.verdict(0, 0), 3);
        x.record(1, 0, true);
        Make.record(x, 199, 1, 0, false);
        check.due("verdict(1, 0), one passed", x.verdict(1, 0), 3);
    }

    static void promise20TestTooSmall(Check check) {
        check.noSuch(Make.ANY, "verdict(-1, 0)", x -> x.verdict(-1, 0));
        check.noSuch(Make.ANY, "verdict(least, 0)", x -> x.verdict(LEAST, 0));
    }

    static void promise20TestTooLarge(Check check) {
        check.noSuch(Make.ANY, "verdict(tests(), 0)", x -> x.verdict(x.tests(), 0));
        check.noSuch(Make.ANY, "verdict(12, 0)", x -> x.verdict(12, 0));
        check.noSuch(Make.ANY, "verdict(greatest, 0)", x -> x.verdict(GREATEST, 0));
    }

    static void promise20CommitTooSmall(Check check) {
        check.noSuch(Make.ANY, "verdict(0, -1)", x -> x.verdict(0, -1));
        check.noSuch(Make.ANY, "verdict(0, least)", x -> x.verdict(0, LEAST));
    }

    static void promise20CommitTooLarge(Check check) {
        check.noSuch(Make.ANY, "verdict(0, commits())", x -> x.verdict(0, x.commits()));
        check.noSuch(Make.ANY, "verdict(0, 40)", x -> x.verdict(0, 40));
        check.noSuch(Make.ANY, "verdict(0, greatest)", x -> x.verdict(0, GREATEST));
    }

    static void promise20WithoutTestsOrCommits(Check check) {
        check.noSuch(List.of(() -> Make.plain(40, 0)), "verdict(0, 0)", x -> x.verdict(0, 0));
        check.noSuch(List.of(() -> Make.plain(0, 12)), "verdict(0, 0)", x -> x.verdict(0, 0));
    }

    // ---- promise 21: the share in percent, rounded down; 0 without runs

    private static int failingOf(int failed, int all) {
        FlakeTriage x = Make.plain(2, 1);
        Make.record(x, failed, 0, 0, false);
        Make.record(x, all - failed, 0, 1, true);
        return x.failing(0);
    }

    static void promise21NoRuns(Check check) {
        check.due("failing(0)", failingOf(0, 0), 0);
    }

    static void promise21NoneFailed(Check check) {
        check.due("failing(0), none of 1", failingOf(0, 1), 0);
        check.due("failing(0), none of 200", failingOf(0, 200), 0);
    }

    static void promise21AllFailed(Check check) {
        check.due("failing(0), 1 of 1", failingOf(1, 1), 100);
        check.due("failing(0), 200 of 200", failingOf(200, 200), 100);
    }

    static void promise21RoundedDownToNothing(Check check) {
        check.due("failing(0), 1 of 200", failingOf(1, 200), 0);
        check.due("failing(0), 1 of 101", failingOf(1, 101), 0);
        check.due("failing(0), 1 of 100", failingOf(1, 100), 1);
    }

    static void promise21RoundedDownFromNearlyAll(Check check) {
        check.due("failing(0), 199 of 200", failingOf(199, 200), 99);
        check.due("failing(0), 100 of 101", failingOf(100, 101), 99);
    }

    static void promise21RoundedDownInTheMiddle(Check check) {
        check.due("failing(0), 1 of 3", failingOf(1, 3), 33);
        check.due("failing(0), 2 of 3", failingOf(2, 3), 66);
        check.due("failing(0), 3 of 200", failingOf(3, 200), 1);
        check.due("failing(0), 1 of 8", failingOf(1, 8), 12);
    }

    static void promise21EachShareOfAHundred(Check check) {
        for (int failed = 0; failed <= 100; failed++) {
            check.due("failing(0), " + failed + " of 100", failingOf(failed, 100), failed);
        }
    }

    static void promise21EachShareOf200(Check check) {
        for (int failed = 0; failed <= 200; failed++) {
            check.due("failing(0), " + failed + " of 200", failingOf(failed, 200), failed / 2);
        }
    }

    static void promise21TestTooSmall(Check check) {
        check.noSuch(Make.ANY, "failing(-1)", x -> x.failing(-1));
        check.noSuch(Make.ANY, "failing(least)", x -> x.failing(LEAST));
    }

    static void promise21TestTooLarge(Check check) {
        check.noSuch(Make.ANY, "failing(tests())", x -> x.failing(x.tests()));
        check.noSuch(Make.ANY, "failing(12)", x -> x.failing(12));
        check.noSuch(Make.ANY, "failing(greatest)", x -> x.failing(GREATEST));
    }

    // ---- promise 22: mixed at as many of the latest commits as the limit, or more

    private static FlakeTriage mixedAt(int commits, int... mixed) {
        FlakeTriage x = Make.plain(commits, 1);
        for (int commit : mixed) {
            Make.mix(x, 0, commit);
        }
        return x;
    }

    static void promise22OneLessThanTheLimit(Check check) {
        FlakeTriage x = mixedAt(10, 1, 9);
        x.setQuarantine(3, 10);
        check.due("isQuarantined(0)", x.isQuarantined(0), false);
    }

    static void promise22JustTheLimit(Check check) {
        FlakeTriage x = mixedAt(10, 1, 5, 9);
        x.setQuarantine(3, 10);
        check.due("isQuarantined(0)", x.isQuarantined(0), true);
    }

    static void promise22MoreThanTheLimit(Check check) {
        FlakeTriage x = mixedAt(10, 1, 3, 5, 9);
        x.setQuarantine(3, 10);
        check.due("isQuarantined(0)", x.isQuarantined(0), true);
    }

    static void promise22TheOldestCommitOfTheWindow(Check check) {
        FlakeTriage x = mixedAt(12, 7, 11);
        x.setQuarantine(2, 5);
        check.due("isQuarantined(0)", x.isQuarantined(0), true);
    }

    static void promise22TheCommitAheadOfTheWindow(Check check) {
        FlakeTriage x = mixedAt(12, 6, 11);
        x.setQuarantine(2, 5);
        check.due("isQuarantined(0)", x.isQuarantined(0), false);
    }

    static void promise22TheLatestCommit(Check check) {
        FlakeTriage x = mixedAt(40, 39);
        x.setQuarantine(1, 1);
        check.due("isQuarantined(0)", x.isQuarantined(0), true);
    }

    static void promise22FewerCommitsThanTheWindow(Check check) {
        FlakeTriage x = mixedAt(3, 0, 2);
        x.setQuarantine(2, 4);
        check.due("isQuarantined(0) with a limit of 2", x.isQuarantined(0), true);
        x.setQuarantine(3, 40);
        check.due("isQuarantined(0) with a limit of 3", x.isQuarantined(0), false);
    }

    static void promise22AsManyCommitsAsTheWindow(Check check) {
        FlakeTriage x = mixedAt(4, 0, 3);
        x.setQuarantine(2, 4);
        check.due("isQuarantined(0)", x.isQuarantined(0), true);
        x.addCommit(1);
        check.due("isQuarantined(0) with one commit more", x.isQuarantined(0), false);
    }

    static void promise22NoCommits(Check check) {
        FlakeTriage x = Make.plain(0, 1);
        check.due("isQuarantined(0)", x.isQuarantined(0), false);
        x.setQuarantine(1, 40);
        check.due("isQuarantined(0) with the least limit", x.isQuarantined(0), false);
    }

    static void promise22NoRuns(Check check) {
        FlakeTriage x = Make.plain(40, 12);
        x.setQuarantine(1, 40);
        check.due("isQuarantined(0)", x.isQuarantined(0), false);
        check.due("isQuarantined(11)", x.isQuarantined(11), false);
    }

    static void promise22OnlyMixedOnesCount(Check check) {
        FlakeTriage x = Make.plain(4, 1);
        x.setQuarantine(1, 4);
        Make.record(x, 2, 0, 0, true);
        Make.record(x, 2, 0, 1, false);
        x.record(0, 2, true);
        x.record(0, 3, false);
        check.due("isQuarantined(0)", x.isQuarantined(0), false);
    }

    static void promise22ACommitCountsOnce(Check check) {
        FlakeTriage x = mixedAt(4, 2, 2, 2);
        check.due("isQuarantined(0)", x.isQuarantined(0), false);
    }

    static void promise22TheLatestOfAllCommitsNotOfThoseWithRuns(Check check) {
        FlakeTriage x = mixedAt(2, 0, 1);
        check.due("isQuarantined(0)", x.isQuarantined(0), true);
        for (int i = 0; i < 8; i++) {
            x.addCommit(0);
        }
        check.due("isQuarantined(0) behind eight commits more", x.isQuarantined(0), true);
        x.addCommit(0);
        check.due("isQuarantined(0) behind nine commits more", x.isQuarantined(0), false);
    }

    static void promise22TheLastTestAlone(Check check) {
        FlakeTriage x = Make.plain(40, 12);
        Make.mix(x, 11, 38);
        Make.mix(x, 11, 39);
        check.due("isQuarantined(11)", x.isQuarantined(11), true);
        check.due("isQuarantined(10)", x.isQuarantined(10), false);
        check.due("isQuarantined(0)", x.isQuarantined(0), false);
    }

    static void promise22TestTooSmall(Check check) {
        check.noSuch(Make.ANY, "isQuarantined(-1)", x -> x.isQuarantined(-1));
        check.noSuch(Make.ANY, "isQuarantined(least)", x -> x.isQuarantined(LEAST));
    }

    static void promise22TestTooLarge(Check check) {
        check.noSuch(Make.ANY, "isQuarantined(tests())", x -> x.isQuarantined(x.tests()));
        check.noSuch(Make.ANY, "isQuarantined(12)", x -> x.isQuarantined(12));
        check.noSuch(Make.ANY, "isQuarantined(greatest)", x -> x.isQuarantined(GREATEST));
    }

    // ---- promise 23: those with the verdict 2 that are not in quarantine

    static void promise23WithoutTests(Check check) {
        FlakeTriage x = Make.plain(40, 0);
        check.due("broken(0)", x.broken(0), 0);
        check.due("broken(39)", x.broken(39), 0);
    }

    static void promise23WithoutRuns(Check check) {
        FlakeTriage x = Make.plain(40, 12);
        check.due("broken(0)", x.broken(0), 0);
        check.due("broken(39)", x.broken(39), 0);
    }

    static void promise23OneOfEachVerdict(Check check) {
        FlakeTriage x = Make.plain(1, 4);
        x.record(1, 0, true);
        x.record(2, 0, false);
        Make.mix(x, 3, 0);
        check.due("broken(0)", x.broken(0), 4);
    }

    static void promise23TheFirstAndTheLastTest(Check check) {
        FlakeTriage x = Make.plain(2, 12);
        x.record(0, 0, false);
        x.record(11, 1, false);
        check.due("broken(0)", x.broken(0), 1);
        check.due("broken(1)", x.broken(1), 2048);
    }

    static void promise23AllTests(Check check) {
        FlakeTriage x = Make.plain(40, 12);
        for (int test = 0; test < 12; test++) {
            x.record(test, 0, false);
            x.record(test, 39, false);
        }
        check.due("broken(0)", x.broken(0), 4095);
        check.due("broken(39)", x.broken(39), 4095);
        check.due("broken(38)", x.broken(38), 0);
    }

    static void promise23ACommitThatDoesNotTouchTheTest(Check check) {
        FlakeTriage x = new FlakeTriage();
        x.addCommit(2);
        x.addTest(1);
        x.record(0, 0, false);
        check.due("broken(0)", x.broken(0), 1);
    }

    static void promise23InQuarantineByTheLimit(Check check) {
        FlakeTriage x = mixedAt(4, 1, 2);
        x.record(0, 0, false);
        check.due("broken(0) with the limit met", x.broken(0), 0);
        x.setQuarantine(3, 10);
        check.due("broken(0) with one less", x.broken(0), 1);
    }

    static void promise23OutOfQuarantineByTheWindow(Check check) {
        FlakeTriage x = mixedAt(4, 1, 2);
        x.record(0, 3, false);
        x.setQuarantine(2, 3);
        check.due("broken(3) with a window that just reaches", x.broken(3), 0);
        x.setQuarantine(2, 2);
        check.due("broken(3) with one that does not", x.broken(3), 1);
    }

    static void promise23ACommitAheadOfTheWindow(Check check) {
        FlakeTriage x = mixedAt(5, 3, 4);
        x.setQuarantine(2, 2);
        x.record(0, 0, false);
        check.due("broken(0) of a test in quarantine", x.broken(0), 0);
        x.setQuarantine(2, 1);
        check.due("broken(0) of a test that is not", x.broken(0), 1);
    }

    static void promise23CommitTooSmall(Check check) {
        check.noSuch(Make.ANY, "broken(-1)", x -> x.broken(-1));
        check.noSuch(Make.ANY, "broken(least)", x -> x.broken(LEAST));
    }

    static void promise23CommitTooLarge(Check check) {
        check.noSuch(Make.ANY, "broken(commits())", x -> x.broken(x.commits()));
        check.noSuch(Make.ANY, "broken(40)", x -> x.broken(40));
        check.noSuch(Make.ANY, "broken(greatest)", x -> x.broken(GREATEST));
    }

    static void promise23WithoutCommits(Check check) {
        check.noSuch(List.of(() -> Make.plain(0, 12)), "broken(0)", x -> x.broken(0));
    }
}
