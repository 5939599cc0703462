/** Promises 24 to 28: suspects, contradictions, candidates, likeliest, next. */
final class CulpritsTest {
    private static final Class<IndexOutOfBoundsException> NO_SUCH = IndexOutOfBoundsException.class;
    private static final Class<IllegalStateException> NOT_NOW = IllegalStateException.class;

    private static final Check check = new Check();

    public static void main(String[] args) {
        promise24Suspects();
        promise25Contradictions();
        promise25OnlyRunsFromGoodToBad();
        promise26Candidates();
        promise26AllCommits();
        promise27Likeliest();
        promise28NextHalves();
        promise28NextByRuns();
        promise28NextAtTheEdges();
        refusals();
        check.end();
    }

    private static void promise24Suspects() {
        FlakeTriage x = new FlakeTriage();
        x.addTest(1);
        int[] changes = {1, 2, 1, 4, 3, 1};
        for (int parts : changes) {
            x.addCommit(parts);
        }
        x.triage(0, 0, 4);
        check.due("suspects(0), not the good one, the bad one too", x.suspects(0), 4 + 16);
        x.setUses(0, 4);
        check.due("suspects(0) as parts use each other then", x.suspects(0), 4 + 8 + 16);
        x.setUses(0, 0);
        check.due("suspects(0) as they do no longer", x.suspects(0), 4 + 16);
        x.triage(0, 2, 3);
        check.due("suspects(0) where nothing touches it", x.suspects(0), 0);
        x.addCommit(1);
        check.due("suspects(0) with a later commit", x.suspects(0), 0);
        FlakeTriage all = Make.plain(40, 1);
        all.triage(0, 0, 39);
        check.due("suspects(0) of 40 commits", all.suspects(0), (1L << 40) - 2);
    }

    private static void promise25Contradictions() {
        FlakeTriage x = Make.plain(5, 2);
        x.addCommit(2);
        x.triage(0, 0, 5);
        Make.record(x, 2, 0, 2, true);
        x.record(0, 3, false);
        x.record(1, 1, false);
        check.due("contradictions(0, 1), ahead of two that passed", x.contradictions(0, 1), 2);
        check.due("contradictions(0, 2), at two that passed", x.contradictions(0, 2), 2);
        check.due("contradictions(0, 3), at one that failed", x.contradictions(0, 3), 0);
        check.due("contradictions(0, 4), behind one that failed", x.contradictions(0, 4), 1);
        check.due("contradictions(0, 0), the good one", x.contradictions(0, 0), -1);
        check.due("contradictions(0, 5), touches nothing", x.contradictions(0, 5), -1);
        x.triage(0, 0, 3);
        check.due("contradictions(0, 4), behind the bad one", x.contradictions(0, 4), -1);
    }

    private static void promise25OnlyRunsFromGoodToBad() {
        FlakeTriage x = Make.plain(6, 1);
        x.triage(0, 1, 4);
        x.record(0, 0, false);
        x.record(0, 5, true);
        check.due("contradictions(0, 3) by runs outside", x.contradictions(0, 3), 0);
        check.due("candidates(0) by runs outside", x.candidates(0), 4 + 8 + 16);
        x.record(0, 1, false);
        check.due("contradictions(0, 3) by the good one", x.contradictions(0, 3), 1);
        x.record(0, 4, true);
        check.due("contradictions(0, 3) by the bad one too", x.contradictions(0, 3), 2);
        check.due("contradictions(0, 4) by both", x.contradictions(0, 4), 2);
        check.due("candidates(0) by both", x.candidates(0), 0);
    }

    private static void promise26Candidates() {
        FlakeTriage x = Make.plain(9, 1);
        x.triage(0, 0, 8);
        check.due("candidates(0) without runs", x.candidates(0), 510);
        x.record(0, 4, true);
        check.due("candidates(0), behind one that passed", x.candidates(0), 480);
        x.record(0, 6, false);
        check.due("candidates(0), up to one that failed", x.candidates(0), 96);
        x.setNoise(1);
        check.due("candidates(0) with noise 1", x.candidates(0), 510);
        x.record(0, 4, true);
        check.due("candidates(0) with noise 1, two that passed", x.candidates(0), 480);
        x.setNoise(2);
        check.due("candidates(0) with noise 2", x.candidates(0), 510);
        x.setUses(0, 2);
        x.setNoise(0);
        check.due("candidates(0) when parts use more", x.candidates(0), 96);
    }

    private static void promise26AllCommits() {
        FlakeTriage x = Make.plain(40, 1);
        x.triage(0, 0, 39);
        for (int commit = 0; commit < 40; commit++) {
            x.record(0, commit, commit < 38);
        }
        check.due("candidates(0) of 40 commits", x.candidates(0), 1L << 38);
        for (int commit = 1; commit < 40; commit++) {
            check.due("contradictions(0, " + commit + ")", x.contradictions(0, commit), Math.abs(38 - commit));
        }
        x.setNoise(20);
        check.due("candidates(0) with noise 20", x.candidates(0), (1L << 40) - (1L << 18));
    }

    private static void promise27Likeliest() {
        FlakeTriage x = Make.plain(6, 2);
        x.triage(0, 0, 5);
        check.due("likeliest(0) without runs", x.likeliest(0), 1);
        x.record(0, 3, true);
        check.due("likeliest(0) behind one that passed", x.likeliest(0), 4);
        Make.record(x, 2, 0, 2, false);
        check.due("likeliest(0) with two that failed ahead", x.likeliest(0), 1);
        check.due("candidates(0), none of them", x.candidates(0), 0);
        x.record(0, 5, false);
        x.record(0, 1, true);
        check.due("likeliest(0) with one that passed ahead", x.likeliest(0), 2);
        FlakeTriage none = new FlakeTriage();
        none.addCommit(1);
        none.addCommit(1);
        none.addTest(2);
        none.triage(0, 0, 1);
        check.due("likeliest(0) without suspects", none.likeliest(0), -1);
        FlakeTriage last = Make.plain(40, 1);
        last.triage(0, 0, 39);
        last.record(0, 38, true);
        check.due("likeliest(0), the last commit", last.likeliest(0), 39);
    }

    private static void promise28NextHalves() {
        FlakeTriage x = Make.plain(9, 1);
        x.triage(0, 0, 8);
        check.due("next(0) of eight candidates", x.next(0), 4);
        x.record(0, 4, true);
        check.due("next(0) of four", x.next(0), 6);
        x.record(0, 6, false);
        check.due("next(0) of two", x.next(0), 5);
        x.record(0, 5, true);
        check.due("next(0) of one, the lowest that was not run", x.next(0), 1);
        FlakeTriage all = Make.plain(40, 1);
        all.triage(0, 0, 39);
        check.due("next(0) of 39 candidates", all.next(0), 19);
        all.record(0, 19, true);
        check.due("next(0) of 20 candidates", all.next(0), 29);
    }

    private static void promise28NextByRuns() {
        FlakeTriage x = new FlakeTriage();
        x.addTest(1);
        x.addTest(1);
        int[] changes = {0, 1, 2, 2, 1, 2, 2};
        for (int parts : changes) {
            x.addCommit(parts);
        }
        x.triage(0, 0, 6);
        check.due("next(0), the lowest of three alike", x.next(0), 1);
        x.setNoise(20);
        x.record(0, 1, true);
        check.due("next(0), the lowest of two not run", x.next(0), 2);
        x.record(0, 2, false);
        x.record(0, 3, true);
        check.due("next(0), the lowest of three run once", x.next(0), 1);
        Make.mix(x, 0, 1);
        Make.mix(x, 0, 2);
        check.due("next(0), the one with the fewest runs", x.next(0), 3);
        x.record(1, 3, true);
        check.due("next(0) by runs of another test", x.next(0), 3);
    }

    private static void promise28NextAtTheEdges() {
        FlakeTriage x = Make.plain(6, 1);
        x.triage(0, 2, 3);
        check.due("next(0) with nothing between", x.next(0), -1);
        x.triage(0, 2, 4);
        check.due("next(0) with one between", x.next(0), 3);
        Make.record(x, 3, 0, 3, true);
        check.due("next(0) with one between, run before", x.next(0), 3);
        FlakeTriage none = new FlakeTriage();
        none.addTest(0);
        for (int i = 0; i < 4; i++) {
            none.addCommit(1);
        }
        none.triage(0, 0, 3);
        check.due("next(0) without suspects", none.next(0), 1);
        none.record(0, 1, true);
        check.due("next(0) without suspects, by runs", none.next(0), 2);
    }

    private static void refusals() {
        FlakeTriage x = Make.plain(2, 2);
        x.triage(0, 0, 1);
        int[] noTest = {-1, 2, Integer.MIN_VALUE, Integer.MAX_VALUE};
        for (int test : noTest) {
            check.raises("suspects(" + test + ")", NO_SUCH, () -> x.suspects(test));
            check.raises("contradictions(" + test + ", 1)", NO_SUCH, () -> x.contradictions(test, 1));
            check.raises("candidates(" + test + ")", NO_SUCH, () -> x.candidates(test));
            check.raises("likeliest(" + test + ")", NO_SUCH, () -> x.likeliest(test));
            check.raises("next(" + test + ")", NO_SUCH, () -> x.next(test));
        }
        int[] noCommit = {-1, 2, Integer.MIN_VALUE, Integer.MAX_VALUE};
        for (int commit : noCommit) {
            check.raises("contradictions(0, " + commit + ")", NO_SUCH, () -> x.contradictions(0, commit));
            check.raises("contradictions(1, " + commit + ")", NO_SUCH, () -> x.contradictions(1, commit));
        }
        check.refuses(x, "suspects(1), not in triage", NOT_NOW, () -> x.suspects(1));
        check.refuses(x, "contradictions(1, 1), not in triage", NOT_NOW, () -> x.contradictions(1, 1));
        check.refuses(x, "candidates(1), not in triage", NOT_NOW, () -> x.candidates(1));
        check.refuses(x, "likeliest(1), not in triage", NOT_NOW, () -> x.likeliest(1));
        check.refuses(x, "next(1), not in triage", NOT_NOW, () -> x.next(1));
        x.close(0);
        check.refuses(x, "next(0), no longer in triage", NOT_NOW, () -> x.next(0));
    }
}
