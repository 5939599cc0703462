/** Promises 24 to 28 in ordinary use; their boundary cases are in EdgesOfCulpritsTest. */
final class CulpritsTest {
    public static void main(String[] args) {
        Cases.run(CulpritsTest.class);
    }

    static void promise24Suspects(Check check) {
        FlakeTriage x = new FlakeTriage();
        x.addTest(1);
        Make.addCommits(x, 1, 2, 1, 4, 3, 1);
        x.triage(0, 0, 4);
        check.due("suspects(0), not the good one, the bad one too", x.suspects(0), 4 + 16);
        x.setUses(0, 4);
        check.due("suspects(0) as parts use each other then", x.suspects(0), 4 + 8 + 16);
        x.setUses(0, 0);
        check.due("suspects(0) as they do no longer", x.suspects(0), 4 + 16);
        x.triage(0, 2, 3);
        check.due("suspects(0) where nothing touches it", x.suspects(0), 0);
        x.addCommit(1);
        check.due("suspects(0) with a later commit", x.suspects(0), 0);
    }

    static void promise25Contradictions(Check check) {
        FlakeTriage x = Make.plain(5, 2);
        x.addCommit(2);
        x.triage(0, 0, 5);
        Make.record(x, 2, 0, 2, true);
        x.record(0, 3, false);
        x.record(1, 1, false);
        check.due("contradictions(0, 1), ahead of two that passed", x.contradictions(0, 1), 2);
        check.due("contradictions(0, 2), at two that passed", x.contradictions(0, 2), 2);
        check.due("contradictions(0, 3), at one that failed", x.contradictions(0, 3), 0);
        check.due("contradictions(0, 4), behind one that failed", x.contradictions(0, 4), 1);
        check.due("contradictions(0, 0), the good one", x.contradictions(0, 0), -1);
        check.due("contradictions(0, 5), touches nothing", x.contradictions(0, 5), -1);
        x.triage(0, 0, 3);
        check.due("contradictions(0, 4), behind the bad one", x.contradictions(0, 4), -1);
    }

    static void promise26Candidates(Check check) {
        FlakeTriage x = Make.inTriage(9, 1);
        check.due("candidates(0) without runs", x.candidates(0), 510);
        x.record(0, 4, true);
        check.due("candidates(0), behind one that passed", x.candidates(0), 480);
        x.record(0, 6, false);
        check.due("candidates(0), up to one that failed", x.candidates(0), 96);
        x.setNoise(1);
        check.due("candidates(0) with noise 1", x.candidates(0), 510);
        x.record(0, 4, true);
        check.due("candidates(0) with noise 1, two that passed", x.candidates(0), 480);
        x.setNoise(2);
        check.due("candidates(0) with noise 2", x.candidates(0), 510);
        x.setUses(0, 2);
        x.setNoise(0);
        check.due("candidates(0) when parts use more", x.candidates(0), 96);
    }

    static void promise26AllCommits(Check check) {
        FlakeTriage x = Make.inTriage(40, 1);
        for (int commit = 0; commit < 40; commit++) {
            x.record(0, commit, commit < 38);
        }
        check.due("candidates(0) of 40 commits", x.candidates(0), 1L << 38);
        for (int commit = 1; commit < 40; commit++) {
            check.due("contradictions(0, " + commit + ")", x.contradictions(0, commit), Math.abs(38 - commit));
        }
        x.setNoise(20);
        check.due("candidates(0) with noise 20", x.candidates(0), (1L << 40) - (1L << 18));
    }

    static void promise27Likeliest(Check check) {
        FlakeTriage x = Make.inTriage(6, 2);
        check.due("likeliest(0) without runs", x.likeliest(0), 1);
        x.record(0, 3, true);
        check.due("likeliest(0) behind one that passed", x.likeliest(0), 4);
        Make.record(x, 2, 0, 2, false);
        check.due("likeliest(0) with two that failed ahead", x.likeliest(0), 1);
        check.due("candidates(0), none of them", x.candidates(0), 0);
        x.record(0, 5, false);
        x.record(0, 1, true);
        check.due("likeliest(0) with one that passed ahead", x.likeliest(0), 2);
    }

    static void promise28NextHalves(Check check) {
        FlakeTriage x = Make.inTriage(9, 1);
        check.due("next(0) of eight candidates", x.next(0), 4);
        x.record(0, 4, true);
        check.due("next(0) of four", x.next(0), 6);
        x.record(0, 6, false);
        check.due("next(0) of two", x.next(0), 5);
        x.record(0, 5, true);
        check.due("next(0) of one, the lowest that was not run", x.next(0), 1);
        FlakeTriage all = Make.inTriage(40, 1);
        check.due("next(0) of 39 candidates", all.next(0), 19);
        all.record(0, 19, true);
        check.due("next(0) of 20 candidates", all.next(0), 29);
    }

    static void promise28NextByRuns(Check check) {
        FlakeTriage x = new FlakeTriage();
        x.addTest(1);
        x.addTest(1);
        Make.addCommits(x, 0, 1, 2, 2, 1, 2, 2);
        x.triage(0, 0, 6);
        check.due("next(0), the lowest of three alike", x.next(0), 1);
        x.setNoise(20);
        x.record(0, 1, true);
        check.due("next(0), the lowest of two not run", x.next(0), 2);
        x.record(0, 2, false);
        x.record(0, 3, true);
        check.due("next(0), the lowest of three run once", x.next(0), 1);
        Make.mix(x, 0, 1);
        Make.mix(x, 0, 2);
        check.due("next(0), the one with the fewest runs", x.next(0), 3);
        x.record(1, 3, true);
        check.due("next(0) by runs of another test", x.next(0), 3);
    }
}
