/** Objects to begin a test with. */
final class Make {
    private Make() {
    }

    /** Commits and tests that all change and use part 0. */
    static FlakeTriage plain(int commits, int tests) {
        FlakeTriage x = new FlakeTriage();
        for (int i = 0; i < commits; i++) {
            x.addCommit(1);
        }
        for (int i = 0; i < tests; i++) {
            x.addTest(1);
        }
        return x;
    }

    /** As many runs of a test at a commit as asked for, alike. */
    static void record(FlakeTriage x, int times, int test, int commit, boolean passed) {
        for (int i = 0; i < times; i++) {
            x.record(test, commit, passed);
        }
    }

    /** A run that passed and one that failed. */
    static void mix(FlakeTriage x, int test, int commit) {
        x.record(test, commit, true);
        x.record(test, commit, false);
    }
}
