import java.util.List;
import java.util.function.Supplier;

/** Objects to begin a test with. */
final class Make {
    /** A new object, one with something in every part of it, and one with all commits and tests that it can have. */
    static final List<Supplier<FlakeTriage>> ANY = List.of(FlakeTriage::new, Make::livedIn, Make::full);

    /** As ANY, but not the new object: each of these has commits and tests. */
    static final List<Supplier<FlakeTriage>> LIVED_IN = List.of(Make::livedIn, Make::full);

    static final List<Supplier<FlakeTriage>> FULL = List.of(Make::full);

    private Make() {
    }

    /** Commits and tests that all change and use part 0. */
    static FlakeTriage plain(int commits, int tests) {
        FlakeTriage x = new FlakeTriage();
        for (int i = 0; i < commits; i++) {
            x.addCommit(1);
        }
        for (int i = 0; i < tests; i++) {
            x.addTest(1);
        }
        return x;
    }

    /** As plain, and all tests are in triage between the first commit and the last one. */
    static FlakeTriage inTriage(int commits, int tests) {
        FlakeTriage x = plain(commits, tests);
        for (int test = 0; test < tests; test++) {
            x.triage(test, 0, commits - 1);
        }
        return x;
    }

    /** As inTriage, and all tests are in the queue, in the order of their numbers. */
    static FlakeTriage inQueue(int commits, int tests) {
        FlakeTriage x = inTriage(commits, tests);
        for (int test = 0; test < tests; test++) {
            x.enqueue(test);
        }
        return x;
    }

    /** Tests 0, 2 and 4 are in the queue, test 1 is in triage alone, test 3 is in none; a budget of 8 is left. */
    static FlakeTriage livedIn() {
        FlakeTriage x = new FlakeTriage();
        x.setUses(0, 2 + 4);
        x.setUses(2, 1 + 8);
        x.setUses(15, 32768);
        addCommits(x, 1, 2, 8, 16, 2 + 8, 32768, 1);
        addTests(x, 1, 2, 4 + 32768, 0, 65535);
        x.setQuarantine(2, 3);
        x.setNoise(1);
        mix(x, 1, 4);
        mix(x, 1, 6);
        mix(x, 2, 1);
        x.record(0, 0, true);
        x.record(0, 2, true);
        x.record(0, 4, false);
        record(x, 2, 4, 6, false);
        x.triage(0, 0, 6);
        x.triage(1, 3, 4);
        x.triage(2, 1, 5);
        x.triage(4, 2, 6);
        x.enqueue(4);
        x.enqueue(0);
        x.enqueue(2);
        x.newDay(9);
        x.take();
        return x;
    }

    /** 40 commits, 12 tests; tests 0 to 8 are in the queue, test 9 is in triage alone, tests 10 and 11 are in none. */
    static FlakeTriage full() {
        FlakeTriage x = new FlakeTriage();
        for (int part = 0; part < 16; part++) {
            x.setUses(part, 1 << part / 2);
        }
        for (int commit = 0; commit < 40; commit++) {
            x.addCommit(1 << commit % 16 | 1 << commit % 5);
        }
        for (int test = 0; test < 12; test++) {
            x.addTest(1 << test);
        }
        x.setQuarantine(3, 20);
        x.setNoise(2);
        for (int i = 0; i < 3; i++) {
            mix(x, 5, 39 - i);
            record(x, i + 1, i, 20, false);
            record(x, i + 1, i, 10, true);
        }
        for (int test = 0; test < 10; test++) {
            x.triage(test, test, 39 - test);
        }
        for (int test = 8; test >= 0; test--) {
            x.enqueue(test);
        }
        x.newDay(50);
        x.take();
        return x;
    }

    /** Test 1 has the 200 runs that it may have; all three tests are in the queue. */
    static FlakeTriage fullOfRuns() {
        FlakeTriage x = inQueue(4, 3);
        x.newDay(5);
        x.setNoise(20);
        record(x, 60, 1, 0, true);
        record(x, 60, 1, 1, true);
        record(x, 60, 1, 2, false);
        record(x, 20, 1, 3, false);
        return x;
    }

    static void addCommits(FlakeTriage x, int... parts) {
        for (int some : parts) {
            x.addCommit(some);
        }
    }

    static void addTests(FlakeTriage x, int... parts) {
        for (int some : parts) {
            x.addTest(some);
        }
    }

    /** As many runs of a test at a commit as asked for, alike. */
    static void record(FlakeTriage x, int times, int test, int commit, boolean passed) {
        for (int i = 0; i < times; i++) {
            x.record(test, commit, passed);
        }
    }

    /** A run that passed and one that failed. */
    static void mix(FlakeTriage x, int test, int commit) {
        x.record(test, commit, true);
        x.record(test, commit, false);
    }
}
