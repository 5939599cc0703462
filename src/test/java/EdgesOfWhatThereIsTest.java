import java.util.List;

/** The boundary cases of promises 13 to 18: commits, tests, budget, queued, partsOf, touches. */
final class EdgesOfWhatThereIsTest {
    private static final int LEAST = Integer.MIN_VALUE;
    private static final int GREATEST = Integer.MAX_VALUE;

    public static void main(String[] args) {
        Cases.run(EdgesOfWhatThereIsTest.class);
    }

    // ---- promises 13 and 14: 0 to 40 commits, 0 to 12 tests

    static void promise13NoCommits(Check check) {
        check.due("commits()", Make.plain(0, 12).commits(), 0);
    }

    static void promise13AllCommits(Check check) {
        FlakeTriage x = new FlakeTriage();
        for (int count = 1; count <= 40; count++) {
            x.addCommit(0);
            check.due("commits()", x.commits(), count);
        }
        check.due("tests()", x.tests(), 0);
    }

    static void promise14NoTests(Check check) {
        check.due("tests()", Make.plain(40, 0).tests(), 0);
    }

    static void promise14AllTests(Check check) {
        FlakeTriage x = new FlakeTriage();
        for (int count = 1; count <= 12; count++) {
            x.addTest(0);
            check.due("tests()", x.tests(), count);
        }
        check.due("commits()", x.commits(), 0);
    }

    // ---- promise 15: what is left of the budget

    static void promise15NothingAheadOfTheFirstDay(Check check) {
        check.due("budget()", Make.inQueue(3, 3).budget(), 0);
    }

    static void promise15AllOfIt(Check check) {
        FlakeTriage x = Make.inQueue(3, 1);
        x.newDay(100);
        check.due("budget()", x.budget(), 100);
    }

    static void promise15DownToNothing(Check check) {
        FlakeTriage x = Make.inQueue(3, 1);
        x.newDay(100);
        for (int left = 99; left >= 0; left--) {
            x.take();
            check.due("budget()", x.budget(), left);
        }
    }

    // ---- promise 16: how many tests the queue has

    static void promise16NoneInTheQueue(Check check) {
        check.due("queued() of tests in triage alone", Make.inTriage(3, 12).queued(), 0);
    }

    static void promise16AllInTheQueue(Check check) {
        check.due("queued()", Make.inQueue(3, 12).queued(), 12);
    }

    static void promise16UntilNoneIsLeft(Check check) {
        FlakeTriage x = Make.inQueue(2, 12);
        x.newDay(12);
        for (int left = 11; left >= 0; left--) {
            x.take();
            check.due("queued()", x.queued(), left);
        }
    }

    // ---- promise 17: those that it uses, those that these use, and so on

    static void promise17NoParts(Check check) {
        FlakeTriage x = new FlakeTriage();
        x.setUses(0, 65535);
        x.setUses(15, 65535);
        x.addTest(0);
        check.due("partsOf(0)", x.partsOf(0), 0);
    }

    static void promise17AllParts(Check check) {
        FlakeTriage x = new FlakeTriage();
        x.addTest(65535);
        check.due("partsOf(0)", x.partsOf(0), 65535);
        x.setUses(3, 65535);
        check.due("partsOf(0) that use each other, too", x.partsOf(0), 65535);
    }

    static void promise17AllPartsByOne(Check check) {
        FlakeTriage x = new FlakeTriage();
        x.setUses(15, 65535);
        x.addTest(32768);
        check.due("partsOf(0)", x.partsOf(0), 65535);
    }

    static void promise17APartThatUsesItself(Check check) {
        FlakeTriage x = new FlakeTriage();
        x.setUses(6, 64);
        x.addTest(64);
        check.due("partsOf(0)", x.partsOf(0), 64);
    }

    static void promise17TwoPartsThatUseEachOther(Check check) {
        FlakeTriage x = new FlakeTriage();
        x.setUses(0, 32768);
        x.setUses(15, 1);
        Make.addTests(x, 1, 32768);
        check.due("partsOf(0)", x.partsOf(0), 32768 + 1);
        check.due("partsOf(1)", x.partsOf(1), 32768 + 1);
    }

    static void promise17ARingOfAllParts(Check check) {
        FlakeTriage x = new FlakeTriage();
        for (int part = 0; part < 16; part++) {
            x.setUses(part, 1 << (part + 1) % 16);
        }
        for (int test = 0; test < 12; test++) {
            x.addTest(1 << test);
            check.due("partsOf(" + test + ")", x.partsOf(test), 65535);
        }
    }

    static void promise17TheLongestChainUpwards(Check check) {
        FlakeTriage x = new FlakeTriage();
        for (int part = 0; part < 15; part++) {
            x.setUses(part, 1 << part + 1);
        }
        Make.addTests(x, 1, 2, 32768);
        check.due("partsOf(0)", x.partsOf(0), 65535);
        check.due("partsOf(1)", x.partsOf(1), 65534);
        check.due("partsOf(2)", x.partsOf(2), 32768);
    }

    static void promise17TheLongestChainDownwards(Check check) {
        FlakeTriage x = new FlakeTriage();
        for (int part = 1; part < 16; part++) {
            x.setUses(part, 1 << part - 1);
        }
        Make.addTests(x, 32768, 16384, 1);
        check.due("partsOf(0)", x.partsOf(0), 65535);
        check.due("partsOf(1)", x.partsOf(1), 32767);
        check.due("partsOf(2)", x.partsOf(2), 1);
    }

    static void promise17TheLongestChainUpAndDown(Check check) {
        int[] chain = {8, 7, 9, 6, 10, 5, 11, 4, 12, 3, 13, 2, 14, 1, 15, 0};
        FlakeTriage x = new FlakeTriage();
        for (int i = 0; i < 15; i++) {
            x.setUses(chain[i], 1 << chain[i + 1]);
        }
        x.addTest(256);
        check.due("partsOf(0)", x.partsOf(0), 65535);
    }

    static void promise17AsPartsUseEachOtherNow(Check check) {
        FlakeTriage x = new FlakeTriage();
        x.addTest(1);
        x.setUses(0, 2);
        x.setUses(1, 4);
        check.due("partsOf(0)", x.partsOf(0), 7);
        x.setUses(1, 8);
        check.due("partsOf(0) with another use", x.partsOf(0), 11);
        x.setUses(0, 0);
        check.due("partsOf(0) without any", x.partsOf(0), 1);
    }

    static void promise17TestTooSmall(Check check) {
        check.noSuch(Make.ANY, "partsOf(-1)", x -> x.partsOf(-1));
        check.noSuch(Make.ANY, "partsOf(least)", x -> x.partsOf(LEAST));
    }

    static void promise17TestTooLarge(Check check) {
        check.noSuch(Make.ANY, "partsOf(tests())", x -> x.partsOf(x.tests()));
        check.noSuch(Make.ANY, "partsOf(12)", x -> x.partsOf(12));
        check.noSuch(Make.ANY, "partsOf(greatest)", x -> x.partsOf(GREATEST));
    }

    // ---- promise 18: the tests that a commit touches

    static void promise18WithoutTests(Check check) {
        FlakeTriage x = Make.plain(40, 0);
        check.due("touches(0)", x.touches(0), 0);
        check.due("touches(39)", x.touches(39), 0);
    }

    static void promise18ACommitThatChangesNothing(Check check) {
        FlakeTriage x = new FlakeTriage();
        Make.addTests(x, 65535, 1, 0);
        x.addCommit(0);
        check.due("touches(0)", x.touches(0), 0);
    }

    static void promise18ATestWithoutParts(Check check) {
        FlakeTriage x = new FlakeTriage();
        Make.addTests(x, 0, 32768);
        x.addCommit(65535);
        check.due("touches(0)", x.touches(0), 2);
    }

    static void promise18AllTests(Check check) {
        FlakeTriage x = Make.plain(40, 12);
        check.due("touches(0)", x.touches(0), 4095);
        check.due("touches(39)", x.touches(39), 4095);
    }

    static void promise18TheFirstAndTheLastTest(Check check) {
        FlakeTriage x = new FlakeTriage();
        Make.addCommits(x, 1, 2);
        Make.addTests(x, 1, 0, 0, 0, 0, 0, 0, 0, 0, 0, 0, 2);
        check.due("touches(0)", x.touches(0), 1);
        check.due("touches(1)", x.touches(1), 2048);
    }

    static void promise18ByThePartThatAPartUses(Check check) {
        FlakeTriage x = new FlakeTriage();
        Make.addCommits(x, 1, 32768);
        Make.addTests(x, 1, 32768);
        x.setUses(0, 32768);
        check.due("touches(0), not those used by its part", x.touches(0), 1);
        check.due("touches(1), those whose part uses it", x.touches(1), 3);
        x.setUses(0, 0);
        check.due("touches(1) as it is used no longer", x.touches(1), 2);
    }

    static void promise18CommitTooSmall(Check check) {
        check.noSuch(Make.ANY, "touches(-1)", x -> x.touches(-1));
        check.noSuch(Make.ANY, "touches(least)", x -> x.touches(LEAST));
    }

    static void promise18CommitTooLarge(Check check) {
        check.noSuch(Make.ANY, "touches(commits())", x -> x.touches(x.commits()));
        check.noSuch(Make.ANY, "touches(40)", x -> x.touches(40));
        check.noSuch(Make.ANY, "touches(greatest)", x -> x.touches(GREATEST));
    }

    static void promise18WithoutCommits(Check check) {
        check.noSuch(List.of(() -> Make.plain(0, 12)), "touches(0)", x -> x.touches(0));
    }
}
