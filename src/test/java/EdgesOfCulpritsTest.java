import java.util.List;
import java.util.function.Supplier;

/** The boundary cases of promises 24 to 28: suspects, contradictions, candidates, likeliest, next. */
final class EdgesOfCulpritsTest {
    private static final int LEAST = Integer.MIN_VALUE;
    private static final int GREATEST = Integer.MAX_VALUE;
    private static final List<Supplier<FlakeTriage>> CLOSED = List.of(EdgesOfCulpritsTest::closed);

    public static void main(String[] args) {
        Cases.run(EdgesOfCulpritsTest.class);
    }

    /** Test 0 was in triage, and in the queue. */
    private static FlakeTriage closed() {
        FlakeTriage x = Make.inQueue(4, 2);
        x.close(0);
        return x;
    }

    /** A test that uses part 0, and commits that change these parts; it is in triage from the first to the last one. */
    private static FlakeTriage changing(int... parts) {
        FlakeTriage x = new FlakeTriage();
        x.addTest(1);
        Make.addCommits(x, parts);
        x.triage(0, 0, parts.length - 1);
        return x;
    }

    // ---- promise 24: behind the good one up to the bad one

    static void promise24NotTheGoodOneButTheNext(Check check) {
        FlakeTriage x = Make.plain(6, 1);
        x.triage(0, 2, 4);
        check.due("suspects(0)", x.suspects(0), 8 + 16);
    }

    static void promise24TheBadOneButNotTheNext(Check check) {
        FlakeTriage x = changing(1, 0, 0, 1);
        Make.addCommits(x, 1, 1);
        check.due("suspects(0)", x.suspects(0), 8);
    }

    static void promise24NothingTouchesTheTest(Check check) {
        FlakeTriage x = changing(1, 0, 2, 65534);
        check.due("suspects(0)", x.suspects(0), 0);
    }

    static void promise24ATestWithoutParts(Check check) {
        FlakeTriage x = new FlakeTriage();
        x.addTest(0);
        Make.addCommits(x, 65535, 65535);
        x.triage(0, 0, 1);
        check.due("suspects(0)", x.suspects(0), 0);
    }

    static void promise24AllThatThereCanBe(Check check) {
        FlakeTriage x = Make.inTriage(40, 12);
        check.due("suspects(0)", x.suspects(0), (1L << 40) - 2);
        check.due("suspects(11)", x.suspects(11), (1L << 40) - 2);
    }

    static void promise24BitsPastThoseOfAnInt(Check check) {
        FlakeTriage x = Make.plain(40, 1);
        for (int bad = 30; bad < 40; bad++) {
            x.triage(0, bad - 1, bad);
            check.due("suspects(0)", x.suspects(0), 1L << bad);
        }
    }

    static void promise24AsPartsUseEachOtherNow(Check check) {
        FlakeTriage x = changing(1, 2, 4, 1);
        x.setUses(0, 2);
        check.due("suspects(0) with part 1", x.suspects(0), 2 + 8);
        x.setUses(1, 4);
        check.due("suspects(0) with part 2, too", x.suspects(0), 2 + 4 + 8);
        x.setUses(0, 0);
        check.due("suspects(0) with none of them", x.suspects(0), 8);
    }

    static void promise24RunsMakeNoDifference(Check check) {
        FlakeTriage x = Make.inTriage(4, 1);
        Make.record(x, 50, 0, 3, true);
        Make.record(x, 50, 0, 0, false);
        check.due("suspects(0)", x.suspects(0), 14);
    }

    static void promise24TestTooSmall(Check check) {
        check.noSuch(Make.ANY, "suspects(-1)", x -> x.suspects(-1));
        check.noSuch(Make.ANY, "suspects(least)", x -> x.suspects(LEAST));
    }

    static void promise24TestTooLarge(Check check) {
        check.noSuch(Make.ANY, "suspects(tests())", x -> x.suspects(x.tests()));
        check.noSuch(Make.ANY, "suspects(12)", x -> x.suspects(12));
        check.noSuch(Make.ANY, "suspects(greatest)", x -> x.suspects(GREATEST));
    }

    static void promise24NotInTriage(Check check) {
        check.notNow(List.of(Make::livedIn), "suspects(3)", x -> x.suspects(3));
        check.notNow(Make.FULL, "suspects(11)", x -> x.suspects(11));
        check.notNow(CLOSED, "suspects(0)", x -> x.suspects(0));
    }

    // ---- promise 25: how many runs contradict a suspect; -1 if it is no suspect

    static void promise25TheGoodOneIsNoSuspect(Check check) {
        FlakeTriage x = Make.plain(6, 1);
        x.triage(0, 2, 4);
        check.due("contradictions(0, 1), ahead of the good one", x.contradictions(0, 1), -1);
        check.due("contradictions(0, 2), the good one", x.contradictions(0, 2), -1);
        check.due("contradictions(0, 3), the one behind it", x.contradictions(0, 3), 0);
    }

    static void promise25TheBadOneIsASuspect(Check check) {
        FlakeTriage x = Make.plain(6, 1);
        x.triage(0, 2, 4);
        check.due("contradictions(0, 4), the bad one", x.contradictions(0, 4), 0);
        check.due("contradictions(0, 5), the one behind it", x.contradictions(0, 5), -1);
    }

    static void promise25ACommitThatDoesNotTouchTheTest(Check check) {
        FlakeTriage x = changing(1, 1, 2, 1);
        x.record(0, 3, true);
        check.due("contradictions(0, 1)", x.contradictions(0, 1), 1);
        check.due("contradictions(0, 2)", x.contradictions(0, 2), -1);
    }

    static void promise25TheFirstAndTheLastOfAllCommits(Check check) {
        FlakeTriage x = Make.inTriage(40, 1);
        x.record(0, 20, true);
        check.due("contradictions(0, 0)", x.contradictions(0, 0), -1);
        check.due("contradictions(0, 1)", x.contradictions(0, 1), 1);
        check.due("contradictions(0, 32)", x.contradictions(0, 32), 0);
        check.due("contradictions(0, 39)", x.contradictions(0, 39), 0);
    }

    static void promise25NoRuns(Check check) {
        FlakeTriage x = Make.inTriage(4, 2);
        x.record(1, 0, false);
        x.record(1, 3, true);
        for (int commit = 1; commit < 4; commit++) {
            check.due("contradictions(0, " + commit + ")", x.contradictions(0, commit), 0);
        }
    }

    static void promise25PassedAtTheSuspect(Check check) {
        FlakeTriage x = Make.inTriage(5, 1);
        x.record(0, 2, true);
        check.due("contradictions(0, 1), passed later", x.contradictions(0, 1), 1);
        check.due("contradictions(0, 2), passed at it", x.contradictions(0, 2), 1);
        check.due("contradictions(0, 3), passed just ahead", x.contradictions(0, 3), 0);
    }

    static void promise25FailedAtTheSuspect(Check check) {
        FlakeTriage x = Make.inTriage(5, 1);
        x.record(0, 2, false);
        check.due("contradictions(0, 1), failed later", x.contradictions(0, 1), 0);
        check.due("contradictions(0, 2), failed at it", x.contradictions(0, 2), 0);
        check.due("contradictions(0, 3), failed just ahead", x.contradictions(0, 3), 1);
    }

    static void promise25FailedAtTheGoodOne(Check check) {
        FlakeTriage x = Make.plain(6, 1);
        x.triage(0, 1, 4);
        x.record(0, 0, false);
        check.due("contradictions(0, 2), failed ahead of the good one", x.contradictions(0, 2), 0);
        x.record(0, 1, false);
        check.due("contradictions(0, 2), failed at the good one", x.contradictions(0, 2), 1);
        check.due("contradictions(0, 4), failed at the good one", x.contradictions(0, 4), 1);
    }

    static void promise25PassedAtTheBadOne(Check check) {
        FlakeTriage x = Make.plain(6, 1);
        x.triage(0, 1, 4);
        x.record(0, 5, true);
        check.due("contradictions(0, 4), passed behind the bad one", x.contradictions(0, 4), 0);
        x.record(0, 4, true);
        check.due("contradictions(0, 2), passed at the bad one", x.contradictions(0, 2), 1);
        check.due("contradictions(0, 4), passed at the bad one", x.contradictions(0, 4), 1);
    }

    static void promise25ARunAtACommitThatIsNoSuspectCounts(Check check) {
        FlakeTriage x = changing(1, 1, 2, 1);
        x.record(0, 2, true);
        check.due("contradictions(0, 1)", x.contradictions(0, 1), 1);
        x.record(0, 2, false);
        check.due("contradictions(0, 3)", x.contradictions(0, 3), 1);
    }

    static void promise25AllOf200Runs(Check check) {
        FlakeTriage x = Make.inTriage(3, 1);
        Make.record(x, 100, 0, 0, false);
        Make.record(x, 100, 0, 2, true);
        check.due("contradictions(0, 1)", x.contradictions(0, 1), 200);
        check.due("contradictions(0, 2)", x.contradictions(0, 2), 200);
    }

    static void promise25NoneOf200Runs(Check check) {
        FlakeTriage x = Make.inTriage(3, 1);
        Make.record(x, 100, 0, 0, true);
        Make.record(x, 100, 0, 2, false);
        check.due("contradictions(0, 1)", x.contradictions(0, 1), 0);
        check.due("contradictions(0, 2)", x.contradictions(0, 2), 0);
    }

    static void promise25TestTooSmall(Check check) {
        check.noSuch(Make.ANY, "contradictions(-1, 0)", x -> x.contradictions(-1, 0));
        check.noSuch(Make.ANY, "contradictions(least, 0)", x -> x.contradictions(LEAST, 0));
    }

    static void promise25TestTooLarge(Check check) {
        check.noSuch(Make.ANY, "contradictions(tests(), 0)", x -> x.contradictions(x.tests(), 0));
        check.noSuch(Make.ANY, "contradictions(12, 0)", x -> x.contradictions(12, 0));
        check.noSuch(Make.ANY, "contradictions(greatest, 0)", x -> x.contradictions(GREATEST, 0));
    }

    static void promise25CommitTooSmall(Check check) {
        check.noSuch(Make.ANY, "contradictions(0, -1)", x -> x.contradictions(0, -1));
        check.noSuch(Make.ANY, "contradictions(0, least)", x -> x.contradictions(0, LEAST));
    }

    static void promise25CommitTooLarge(Check check) {
        check.noSuch(Make.ANY, "contradictions(0, commits())", x -> x.contradictions(0, x.commits()));
        check.noSuch(Make.ANY, "contradictions(0, 40)", x -> x.contradictions(0, 40));
        check.noSuch(Make.ANY, "contradictions(0, 64)", x -> x.contradictions(0, 64));
        check.noSuch(Make.ANY, "contradictions(0, greatest)", x -> x.contradictions(0, GREATEST));
    }

    static void promise25NotInTriage(Check check) {
        check.notNow(List.of(Make::livedIn), "contradictions(3, 1)", x -> x.contradictions(3, 1));
        check.notNow(Make.FULL, "contradictions(11, 39)", x -> x.contradictions(11, 39));
        check.notNow(CLOSED, "contradictions(0, 0)", x -> x.contradictions(0, 0));
        check.notNow(CLOSED, "contradictions(0, 1)", x -> x.contradictions(0, 1));
    }

    static void promise25NoSuchCommitComesFirst(Check check) {
        check.noSuch(List.of(Make::livedIn), "contradictions(3, -1)", x -> x.contradictions(3, -1));
        check.noSuch(Make.FULL, "contradictions(11, 40)", x -> x.contradictions(11, 40));
        check.noSuch(CLOSED, "contradictions(0, 4)", x -> x.contradictions(0, 4));
    }

    // ---- promise 26: suspects that no more runs contradict than the noise

    static void promise26JustAsManyAsTheNoise(Check check) {
        FlakeTriage x = Make.inTriage(3, 1);
        x.setNoise(3);
        Make.record(x, 3, 0, 1, true);
        check.due("candidates(0)", x.candidates(0), 6);
    }

    static void promise26OneMoreThanTheNoise(Check check) {
        FlakeTriage x = Make.inTriage(3, 1);
        x.setNoise(3);
        Make.record(x, 4, 0, 1, true);
        check.due("candidates(0)", x.candidates(0), 4);
    }

    static void promise26TheGreatestNoise(Check check) {
        FlakeTriage x = Make.inTriage(3, 1);
        x.setNoise(20);
        Make.record(x, 10, 0, 0, false);
        Make.record(x, 10, 0, 2, true);
        check.due("candidates(0) against 20 runs", x.candidates(0), 6);
        x.record(0, 0, false);
        check.due("candidates(0) against 21 runs", x.candidates(0), 0);
    }

    static void promise26NoSuspects(Check check) {
        FlakeTriage x = changing(1, 2, 0);
        x.setNoise(20);
        check.due("candidates(0)", x.candidates(0), 0);
    }

    static void promise26NoRuns(Check check) {
        FlakeTriage x = Make.inTriage(40, 12);
        check.due("candidates(0)", x.candidates(0), (1L << 40) - 2);
        check.due("candidates(11)", x.candidates(11), (1L << 40) - 2);
    }

    static void promise26RunsThatContradictAll(Check check) {
        FlakeTriage x = Make.inTriage(4, 2);
        x.record(0, 0, false);
        check.due("candidates(0), failed at the good one", x.candidates(0), 0);
        x.record(1, 3, true);
        check.due("candidates(1), passed at the bad one", x.candidates(1), 0);
    }

    static void promise26RunsThatContradictNone(Check check) {
        FlakeTriage x = Make.inTriage(4, 1);
        Make.record(x, 100, 0, 0, true);
        Make.record(x, 100, 0, 3, false);
        check.due("candidates(0)", x.candidates(0), 14);
    }

    static void promise26RunsOutside(Check check) {
        FlakeTriage x = Make.plain(6, 1);
        x.triage(0, 1, 4);
        Make.record(x, 10, 0, 0, false);
        Make.record(x, 10, 0, 5, true);
        check.due("candidates(0)", x.candidates(0), 4 + 8 + 16);
    }

    static void promise26PassedAtTheSuspect(Check check) {
        FlakeTriage x = Make.inTriage(5, 1);
        x.record(0, 2, true);
        check.due("candidates(0)", x.candidates(0), 8 + 16);
    }

    static void promise26FailedAtTheSuspect(Check check) {
        FlakeTriage x = Make.inTriage(5, 1);
        x.record(0, 2, false);
        check.due("candidates(0)", x.candidates(0), 2 + 4);
    }

    static void promise26RunsAtCommitsThatAreNoSuspects(Check check) {
        FlakeTriage x = changing(1, 1, 2, 1, 2, 1);
        x.record(0, 2, true);
        x.record(0, 4, false);
        check.due("candidates(0)", x.candidates(0), 8);
    }

    static void promise26MoreAgainBehindFewer(Check check) {
        FlakeTriage x = Make.inTriage(7, 1);
        x.setNoise(1);
        Make.record(x, 2, 0, 1, true);
        Make.record(x, 2, 0, 2, false);
        Make.record(x, 2, 0, 4, true);
        Make.record(x, 2, 0, 5, false);
        // Against commits 1 to 6 there are 4, 2, 4, 4, 2 and 4 runs.
        check.due("candidates(0) with a noise of 1", x.candidates(0), 0);
        x.setNoise(2);
        check.due("candidates(0) with a noise of 2", x.candidates(0), 4 + 32);
        x.setNoise(3);
        check.due("candidates(0) with a noise of 3", x.candidates(0), 4 + 32);
        x.setNoise(4);
        check.due("candidates(0) with a noise of 4", x.candidates(0), 126);
    }

    static void promise26EachCommitAsTheOnlyOne(Check check) {
        FlakeTriage x = Make.plain(40, 1);
        for (int culprit = 1; culprit < 40; culprit++) {
            x.triage(0, culprit - 1, culprit);
            check.due("candidates(0)", x.candidates(0), 1L << culprit);
        }
    }

    static void promise26TestTooSmall(Check check) {
        check.noSuch(Make.ANY, "candidates(-1)", x -> x.candidates(-1));
        check.noSuch(Make.ANY, "candidates(least)", x -> x.candidates(LEAST));
    }

    static void promise26TestTooLarge(Check check) {
        check.noSuch(Make.ANY, "candidates(tests())", x -> x.candidates(x.tests()));
        check.noSuch(Make.ANY, "candidates(12)", x -> x.candidates(12));
        check.noSuch(Make.ANY, "candidates(greatest)", x -> x.candidates(GREATEST));
    }

    static void promise26NotInTriage(Check check) {
        check.notNow(List.of(Make::livedIn), "candidates(3)", x -> x.candidates(3));
        check.notNow(Make.FULL, "candidates(11)", x -> x.candidates(11));
        check.notNow(CLOSED, "candidates(0)", x -> x.candidates(0));
    }

    // ---- promise 27: the suspect that the fewest runs contradict, of several the lowest; -1 without

    static void promise27NoSuspects(Check check) {
        FlakeTriage x = changing(1, 0, 2);
        check.due("likeliest(0)", x.likeliest(0), -1);
    }

    static void promise27OneSuspect(Check check) {
        FlakeTriage x = changing(1, 0, 1, 0);
        check.due("likeliest(0)", x.likeliest(0), 2);
        Make.record(x, 100, 0, 0, false);
        Make.record(x, 100, 0, 3, true);
        check.due("likeliest(0) against 200 runs", x.likeliest(0), 2);
    }

    static void promise27TheLowestOfAll(Check check) {
        FlakeTriage x = Make.inTriage(40, 1);
        check.due("likeliest(0)", x.likeliest(0), 1);
    }

    static void promise27TheLastOfAll(Check check) {
        FlakeTriage x = Make.inTriage(40, 1);
        x.record(0, 38, true);
        check.due("likeliest(0)", x.likeliest(0), 39);
    }

    static void promise27TheLowestOfTwoApart(Check check) {
        FlakeTriage x = Make.inTriage(7, 1);
        Make.record(x, 2, 0, 1, true);
        Make.record(x, 2, 0, 2, false);
        Make.record(x, 2, 0, 4, true);
        Make.record(x, 2, 0, 5, false);
        // Against commits 1 to 6 there are 4, 2, 4, 4, 2 and 4 runs.
        check.due("likeliest(0)", x.likeliest(0), 2);
        x.record(0, 4, true);
        check.due("likeliest(0) with one run more", x.likeliest(0), 5);
    }

    static void promise27ACommitThatIsNoSuspectIsNotLikeliest(Check check) {
        FlakeTriage x = changing(1, 1, 2, 1);
        x.record(0, 1, true);
        x.record(0, 2, false);
        check.due("likeliest(0)", x.likeliest(0), 1);
    }

    static void promise27NotTheGoodOne(Check check) {
        FlakeTriage x = Make.inTriage(3, 1);
        x.record(0, 0, false);
        x.record(0, 1, false);
        check.due("likeliest(0)", x.likeliest(0), 1);
    }

    static void promise27WithoutACandidate(Check check) {
        FlakeTriage x = Make.inTriage(4, 1);
        Make.record(x, 30, 0, 3, true);
        x.record(0, 2, false);
        check.due("candidates(0)", x.candidates(0), 0);
        check.due("likeliest(0)", x.likeliest(0), 1);
        Make.record(x, 2, 0, 2, true);
        check.due("likeliest(0) with two that passed later", x.likeliest(0), 3);
    }

    static void promise27TheNoiseMakesNoDifference(Check check) {
        FlakeTriage x = Make.inTriage(4, 1);
        x.record(0, 1, true);
        x.setNoise(20);
        check.due("likeliest(0)", x.likeliest(0), 2);
    }

    static void promise27TestTooSmall(Check check) {
        check.noSuch(Make.ANY, "likeliest(-1)", x -> x.likeliest(-1));
        check.noSuch(Make.ANY, "likeliest(least)", x -> x.likeliest(LEAST));
    }

    static void promise27TestTooLarge(Check check) {
        check.noSuch(Make.ANY, "likeliest(tests())", x -> x.likeliest(x.tests()));
        check.noSuch(Make.ANY, "likeliest(12)", x -> x.likeliest(12));
        check.noSuch(Make.ANY, "likeliest(greatest)", x -> x.likeliest(GREATEST));
    }

    static void promise27NotInTriage(Check check) {
        check.notNow(List.of(Make::livedIn), "likeliest(3)", x -> x.likeliest(3));
        check.notNow(Make.FULL, "likeliest(11)", x -> x.likeliest(11));
        check.notNow(CLOSED, "likeliest(0)", x -> x.likeliest(0));
    }

    // ---- promise 28: between the good and the bad one the least weight, the fewest runs, the lowest; -1 without

    static void promise28NoneBetween(Check check) {
        FlakeTriage x = Make.plain(40, 1);
        x.triage(0, 0, 1);
        check.due("next(0) at the first commits", x.next(0), -1);
        x.triage(0, 38, 39);
        check.due("next(0) at the last commits", x.next(0), -1);
    }

    static void promise28OneBetween(Check check) {
        FlakeTriage x = Make.plain(6, 1);
        x.triage(0, 2, 4);
        check.due("next(0)", x.next(0), 3);
        Make.record(x, 200, 0, 3, true);
        check.due("next(0) with 200 runs at it", x.next(0), 3);
    }

    static void promise28OneBetweenThatIsNoSuspect(Check check) {
        FlakeTriage x = changing(1, 0, 1);
        check.due("next(0)", x.next(0), 1);
    }

    static void promise28NeitherTheGoodNorTheBadOne(Check check) {
        FlakeTriage x = Make.inTriage(4, 1);
        x.setNoise(20);
        Make.record(x, 3, 0, 1, true);
        Make.record(x, 4, 0, 2, true);
        check.due("next(0), those were not run", x.next(0), 1);
    }

    static void promise28TheMiddleOfAll(Check check) {
        FlakeTriage x = Make.inTriage(40, 1);
        x.setNoise(20);
        check.due("next(0), the lower of two alike", x.next(0), 19);
        x.record(0, 19, true);
        check.due("next(0), the one with fewer runs", x.next(0), 20);
        x.record(0, 20, true);
        check.due("next(0), the lower again", x.next(0), 19);
    }

    static void promise28TheMiddleOfTheLastCommits(Check check) {
        FlakeTriage x = Make.plain(40, 1);
        x.triage(0, 32, 39);
        check.due("next(0) of seven candidates", x.next(0), 35);
        x.triage(0, 31, 39);
        check.due("next(0) of eight candidates", x.next(0), 35);
        x.triage(0, 37, 39);
        check.due("next(0) of two candidates", x.next(0), 38);
    }

    static void promise28TwoCandidatesFarApart(Check check) {
        int[] parts = new int[40];
        parts[1] = 1;
        parts[39] = 1;
        FlakeTriage x = changing(parts);
        check.due("candidates(0)", x.candidates(0), (1L << 39) + 2);
        check.due("next(0)", x.next(0), 1);
    }

    static void promise28ARunMakesLessDifferenceThanTheWeight(Check check) {
        FlakeTriage x = Make.inTriage(5, 1);
        x.setNoise(20);
        Make.record(x, 9, 0, 2, true);
        check.due("next(0)", x.next(0), 2);
    }

    static void promise28FewestRunsNotJustNone(Check check) {
        FlakeTriage x = Make.inTriage(4, 1);
        x.setNoise(20);
        Make.record(x, 2, 0, 1, true);
        x.record(0, 2, false);
        check.due("next(0), one run against two", x.next(0), 2);
        x.record(0, 2, true);
        check.due("next(0), two runs each", x.next(0), 1);
        x.record(0, 1, false);
        check.due("next(0), two runs against three", x.next(0), 2);
    }

    static void promise28RunsOfAnotherTest(Check check) {
        FlakeTriage x = Make.inTriage(4, 2);
        x.record(1, 1, true);
        check.due("next(0)", x.next(0), 1);
    }

    static void promise28ACommitThatIsNoSuspectMayBeNext(Check check) {
        FlakeTriage x = changing(1, 1, 0, 0, 1);
        x.setNoise(20);
        check.due("next(0), the lowest of three alike", x.next(0), 1);
        x.record(0, 1, true);
        check.due("next(0), one without runs", x.next(0), 2);
        x.record(0, 2, true);
        check.due("next(0), the last without runs", x.next(0), 3);
    }

    static void promise28NoCandidates(Check check) {
        FlakeTriage x = Make.inTriage(4, 1);
        x.record(0, 0, false);
        check.due("next(0)", x.next(0), 1);
        x.record(0, 1, false);
        check.due("next(0), the one with fewer runs", x.next(0), 2);
    }

    static void promise28NoSuspects(Check check) {
        FlakeTriage x = changing(1, 0, 0, 0);
        check.due("next(0)", x.next(0), 1);
        x.record(0, 1, true);
        check.due("next(0), the one with fewer runs", x.next(0), 2);
    }

    static void promise28TheBadOneAsTheOnlyCandidate(Check check) {
        FlakeTriage x = Make.inTriage(5, 1);
        x.record(0, 3, true);
        check.due("candidates(0)", x.candidates(0), 16);
        check.due("next(0), the lowest without runs", x.next(0), 1);
    }

    static void promise28TheFirstSuspectAsTheOnlyCandidate(Check check) {
        FlakeTriage x = Make.inTriage(5, 1);
        x.record(0, 1, false);
        check.due("candidates(0)", x.candidates(0), 2);
        check.due("next(0), the lowest without runs", x.next(0), 2);
    }

    static void promise28CandidatesCountNotSuspects(Check check) {
        FlakeTriage x = Make.inTriage(9, 1);
        check.due("next(0) of eight candidates", x.next(0), 4);
        x.record(0, 4, true);
        check.due("next(0) of the upper four", x.next(0), 6);
        x.record(0, 6, true);
        check.due("next(0) of the upper two", x.next(0), 7);
    }

    static void promise28TheCandidateAtACommitIsUpToIt(Check check) {
        FlakeTriage x = changing(1, 0, 1, 1, 0, 0);
        // At commits 1 to 4 the weights are 2, 1, 2 and 2.
        check.due("next(0)", x.next(0), 2);
    }

    static void promise28TestTooSmall(Check check) {
        check.noSuch(Make.ANY, "next(-1)", x -> x.next(-1));
        check.noSuch(Make.ANY, "next(least)", x -> x.next(LEAST));
    }

    static void promise28TestTooLarge(Check check) {
        check.noSuch(Make.ANY, "next(tests())", x -> x.next(x.tests()));
        check.noSuch(Make.ANY, "next(12)", x -> x.next(12));
        check.noSuch(Make.ANY, "next(greatest)", x -> x.next(GREATEST));
    }

    static void promise28NotInTriage(Check check) {
        check.notNow(List.of(Make::livedIn), "next(3)", x -> x.next(3));
        check.notNow(Make.FULL, "next(11)", x -> x.next(11));
        check.notNow(CLOSED, "next(0)", x -> x.next(0));
    }
}
