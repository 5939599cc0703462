import java.util.List;

/** The boundary cases of promises 1 to 6: a new object, parts, commits, tests, settings. */
final class EdgesOfSettingsTest {
    private static final int LEAST = Integer.MIN_VALUE;
    private static final int GREATEST = Integer.MAX_VALUE;

    public static void main(String[] args) {
        Cases.run(EdgesOfSettingsTest.class);
    }

    // ---- promise 1: no commits, no tests, no part uses another one, a budget of 0

    static void promise1NoCommits(Check check) {
        FlakeTriage x = new FlakeTriage();
        check.due("commits()", x.commits(), 0);
        check.due("addCommit(0)", x.addCommit(0), 0);
    }

    static void promise1NoTests(Check check) {
        FlakeTriage x = new FlakeTriage();
        check.due("tests()", x.tests(), 0);
        check.due("addTest(0)", x.addTest(0), 0);
    }

    static void promise1NoPartUsesAnotherOne(Check check) {
        FlakeTriage x = new FlakeTriage();
        for (int part = 0; part < 16; part++) {
            check.due("setUses(" + part + ", 0)", x.setUses(part, 0), 0);
        }
    }

    static void promise1ATestHasItsOwnPartsAlone(Check check) {
        for (int part = 0; part < 16; part++) {
            FlakeTriage x = new FlakeTriage();
            x.addTest(1 << part);
            check.due("partsOf(0)", x.partsOf(0), 1 << part);
        }
    }

    static void promise1ABudgetOfNothing(Check check) {
        FlakeTriage x = new FlakeTriage();
        check.due("budget()", x.budget(), 0);
        check.due("newDay(0)", x.newDay(0), 0);
        check.notNow(List.of(() -> Make.inQueue(3, 1)), "take()", object -> object.take());
    }

    static void promise1AnEmptyQueue(Check check) {
        FlakeTriage x = new FlakeTriage();
        check.due("queued()", x.queued(), 0);
        x.newDay(100);
        check.notNow(List.of(FlakeTriage::new), "take()", object -> object.take());
    }

    static void promise1TheLimitIsTwo(Check check) {
        FlakeTriage x = Make.plain(2, 1);
        Make.mix(x, 0, 0);
        check.due("one commit mixed", x.isQuarantined(0), false);
        Make.mix(x, 0, 1);
        check.due("two commits mixed", x.isQuarantined(0), true);
    }

    static void promise1TheWindowIsTen(Check check) {
        FlakeTriage x = Make.plain(11, 2);
        Make.mix(x, 0, 0);
        Make.mix(x, 0, 10);
        check.due("mixed at the latest and at the eleventh latest", x.isQuarantined(0), false);
        Make.mix(x, 1, 1);
        Make.mix(x, 1, 10);
        check.due("mixed at the latest and at the tenth latest", x.isQuarantined(1), true);
    }

    static void promise1TheNoiseIsNothing(Check check) {
        FlakeTriage x = Make.inTriage(3, 1);
        x.record(0, 1, true);
        check.due("candidates(0)", x.candidates(0), 4);
        check.due("setNoise(0)", x.setNoise(0), 0);
    }

    static void promise1ObjectsShareNothing(Check check) {
        FlakeTriage first = new FlakeTriage();
        FlakeTriage lived = Make.livedIn();
        FlakeTriage second = new FlakeTriage();
        for (FlakeTriage x : List.of(first, second)) {
            check.due("commits()", x.commits(), 0);
            check.due("tests()", x.tests(), 0);
            check.due("budget()", x.budget(), 0);
            check.due("queued()", x.queued(), 0);
            check.due("setUses(0, 0)", x.setUses(0, 0), 0);
            check.due("setNoise(0)", x.setNoise(0), 0);
        }
        check.due("commits() of the other", lived.commits(), 7);
    }

    static void promise1TheLastCallOf512(Check check) {
        FlakeTriage x = Make.plain(1, 1);
        Make.record(x, 200, 0, 0, false);
        for (int call = 203; call < 512; call++) {
            x.setNoise(call % 21);
        }
        check.due("failing(0)", x.failing(0), 100);
    }

    // ---- promise 2: parts 0 to 15, sets of parts 0 to 65535

    static void promise2TheFirstPart(Check check) {
        FlakeTriage x = new FlakeTriage();
        check.due("setUses(0, 32768)", x.setUses(0, 32768), 0);
        x.addTest(1);
        check.due("partsOf(0)", x.partsOf(0), 32768 + 1);
    }

    static void promise2TheLastPart(Check check) {
        FlakeTriage x = new FlakeTriage();
        check.due("setUses(15, 1)", x.setUses(15, 1), 0);
        x.addTest(32768);
        check.due("partsOf(0)", x.partsOf(0), 32768 + 1);
    }

    static void promise2PartTooSmall(Check check) {
        check.noSuch(Make.ANY, "setUses(-1, 0)", x -> x.setUses(-1, 0));
        check.noSuch(Make.ANY, "setUses(-1, 65535)", x -> x.setUses(-1, 65535));
        check.noSuch(Make.ANY, "setUses(-16, 1)", x -> x.setUses(-16, 1));
        check.noSuch(Make.ANY, "setUses(least, 1)", x -> x.setUses(LEAST, 1));
    }

    static void promise2PartTooLarge(Check check) {
        check.noSuch(Make.ANY, "setUses(16, 0)", x -> x.setUses(16, 0));
        check.noSuch(Make.ANY, "setUses(16, 65535)", x -> x.setUses(16, 65535));
        check.noSuch(Make.ANY, "setUses(32, 1)", x -> x.setUses(32, 1));
        check.noSuch(Make.ANY, "setUses(greatest, 1)", x -> x.setUses(GREATEST, 1));
    }

    static void promise2NoParts(Check check) {
        FlakeTriage x = new FlakeTriage();
        x.setUses(7, 1);
        check.due("setUses(7, 0)", x.setUses(7, 0), 1);
        check.due("setUses(7, 0) again", x.setUses(7, 0), 0);
    }

    static void promise2AllParts(Check check) {
        FlakeTriage x = new FlakeTriage();
        check.due("setUses(7, 65535)", x.setUses(7, 65535), 0);
        check.due("setUses(7, 0)", x.setUses(7, 0), 65535);
    }

    static void promise2PartsTooSmall(Check check) {
        check.badValue(Make.ANY, "setUses(0, -1)", x -> x.setUses(0, -1));
        check.badValue(Make.ANY, "setUses(15, -1)", x -> x.setUses(15, -1));
        check.badValue(Make.ANY, "setUses(0, -65536)", x -> x.setUses(0, -65536));
        check.badValue(Make.ANY, "setUses(0, least)", x -> x.setUses(0, LEAST));
    }

    static void promise2PartsTooLarge(Check check) {
        check.badValue(Make.ANY, "setUses(0, 65536)", x -> x.setUses(0, 65536));
        check.badValue(Make.ANY, "setUses(15, 65536)", x -> x.setUses(15, 65536));
        check.badValue(Make.ANY, "setUses(0, 65537)", x -> x.setUses(0, 65537));
        check.badValue(Make.ANY, "setUses(0, greatest)", x -> x.setUses(0, GREATEST));
    }

    static void promise2NoSuchPartComesFirst(Check check) {
        check.noSuch(Make.ANY, "setUses(-1, -1)", x -> x.setUses(-1, -1));
        check.noSuch(Make.ANY, "setUses(16, 65536)", x -> x.setUses(16, 65536));
        check.noSuch(Make.ANY, "setUses(least, least)", x -> x.setUses(LEAST, LEAST));
        check.noSuch(Make.ANY, "setUses(greatest, greatest)", x -> x.setUses(GREATEST, GREATEST));
    }

    static void promise2ThePartItselfMayBeAmong(Check check) {
        FlakeTriage x = new FlakeTriage();
        for (int part = 0; part < 16; part++) {
            check.due("setUses(" + part + ", itself)", x.setUses(part, 1 << part), 0);
            check.due("setUses(" + part + ", 0)", x.setUses(part, 0), 1 << part);
        }
    }

    static void promise2EachPartForItself(Check check) {
        FlakeTriage x = new FlakeTriage();
        for (int part = 0; part < 16; part++) {
            check.due("setUses(" + part + ", first)", x.setUses(part, 100 + part), 0);
        }
        for (int part = 0; part < 16; part++) {
            check.due("setUses(" + part + ", second)", x.setUses(part, 0), 100 + part);
        }
    }

    // ---- promise 3: at most 40 commits

    static void promise3NoParts(Check check) {
        FlakeTriage x = new FlakeTriage();
        check.due("addCommit(0)", x.addCommit(0), 0);
        x.addTest(65535);
        check.due("touches(0)", x.touches(0), 0);
    }

    static void promise3AllParts(Check check) {
        FlakeTriage x = new FlakeTriage();
        check.due("addCommit(65535)", x.addCommit(65535), 0);
        for (int test = 0; test < 12; test++) {
            x.addTest(1 << test);
        }
        check.due("touches(0)", x.touches(0), 4095);
    }

    static void promise3TheFirstAndTheLastPart(Check check) {
        FlakeTriage x = new FlakeTriage();
        Make.addCommits(x, 1, 32768);
        Make.addTests(x, 1, 32768);
        check.due("touches(0)", x.touches(0), 1);
        check.due("touches(1)", x.touches(1), 2);
    }

    static void promise3PartsTooSmall(Check check) {
        check.badValue(Make.ANY, "addCommit(-1)", x -> x.addCommit(-1));
        check.badValue(Make.ANY, "addCommit(-65536)", x -> x.addCommit(-65536));
        check.badValue(Make.ANY, "addCommit(least)", x -> x.addCommit(LEAST));
    }

    static void promise3PartsTooLarge(Check check) {
        check.badValue(Make.ANY, "addCommit(65536)", x -> x.addCommit(65536));
        check.badValue(Make.ANY, "addCommit(65537)", x -> x.addCommit(65537));
        check.badValue(Make.ANY, "addCommit(greatest)", x -> x.addCommit(GREATEST));
    }

    static void promise3TheFortiethCommit(Check check) {
        FlakeTriage x = Make.plain(39, 0);
        check.due("addCommit(0)", x.addCommit(0), 39);
        check.due("commits()", x.commits(), 40);
    }

    static void promise3OneCommitTooMany(Check check) {
        check.notNow(Make.FULL, "addCommit(0)", x -> x.addCommit(0));
        check.notNow(Make.FULL, "addCommit(1)", x -> x.addCommit(1));
        check.notNow(Make.FULL, "addCommit(65535)", x -> x.addCommit(65535));
        check.notNow(List.of(() -> Make.plain(40, 0)), "addCommit(1)", x -> x.addCommit(1));
    }

    static void promise3WrongPartsComeFirst(Check check) {
        check.badValue(Make.FULL, "addCommit(-1) with 40 commits", x -> x.addCommit(-1));
        check.badValue(Make.FULL, "addCommit(65536) with 40 commits", x -> x.addCommit(65536));
    }

    static void promise3TheNumberBehindARefusal(Check check) {
        FlakeTriage x = Make.plain(5, 1);
        try {
            x.addCommit(-1);
        } catch (IllegalArgumentException e) {
            check.due("addCommit(1)", x.addCommit(1), 5);
            check.due("touches(5)", x.touches(5), 1);
            return;
        }
        check.due("addCommit(-1)", "nothing thrown", "IllegalArgumentException");
    }

    // ---- promise 4: at most 12 tests

    static void promise4NoParts(Check check) {
        FlakeTriage x = new FlakeTriage();
        check.due("addTest(0)", x.addTest(0), 0);
        check.due("partsOf(0)", x.partsOf(0), 0);
    }

    static void promise4AllParts(Check check) {
        FlakeTriage x = new FlakeTriage();
        check.due("addTest(65535)", x.addTest(65535), 0);
        check.due("partsOf(0)", x.partsOf(0), 65535);
    }

    static void promise4PartsTooSmall(Check check) {
        check.badValue(Make.ANY, "addTest(-1)", x -> x.addTest(-1));
        check.badValue(Make.ANY, "addTest(-65536)", x -> x.addTest(-65536));
        check.badValue(Make.ANY, "addTest(least)", x -> x.addTest(LEAST));
    }

    static void promise4PartsTooLarge(Check check) {
        check.badValue(Make.ANY, "addTest(65536)", x -> x.addTest(65536));
        check.badValue(Make.ANY, "addTest(65537)", x -> x.addTest(65537));
        check.badValue(Make.ANY, "addTest(greatest)", x -> x.addTest(GREATEST));
    }

    static void promise4TheTwelfthTest(Check check) {
        FlakeTriage x = Make.plain(0, 11);
        check.due("addTest(32768)", x.addTest(32768), 11);
        check.due("tests()", x.tests(), 12);
        check.due("partsOf(11)", x.partsOf(11), 32768);
    }

    static void promise4OneTestTooMany(Check check) {
        check.notNow(Make.FULL, "addTest(0)", x -> x.addTest(0));
        check.notNow(Make.FULL, "addTest(1)", x -> x.addTest(1));
        check.notNow(Make.FULL, "addTest(65535)", x -> x.addTest(65535));
        check.notNow(List.of(() -> Make.plain(0, 12)), "addTest(1)", x -> x.addTest(1));
    }

    static void promise4WrongPartsComeFirst(Check check) {
        check.badValue(Make.FULL, "addTest(-1) with 12 tests", x -> x.addTest(-1));
        check.badValue(Make.FULL, "addTest(65536) with 12 tests", x -> x.addTest(65536));
    }

    static void promise4TheNumberBehindARefusal(Check check) {
        FlakeTriage x = Make.plain(1, 5);
        try {
            x.addTest(65536);
        } catch (IllegalArgumentException e) {
            check.due("addTest(6)", x.addTest(6), 5);
            check.due("partsOf(5)", x.partsOf(5), 6);
            return;
        }
        check.due("addTest(65536)", "nothing thrown", "IllegalArgumentException");
    }

    static void promise4ANewTestHasNothingYet(Check check) {
        FlakeTriage x = Make.livedIn();
        check.due("addTest(1)", x.addTest(1), 5);
        check.due("runs(5)", x.runs(5), 0);
        check.due("failing(5)", x.failing(5), 0);
        check.due("isQuarantined(5)", x.isQuarantined(5), false);
        check.due("queued()", x.queued(), 3);
        check.due("triage(5, 0, 1)", x.triage(5, 0, 1), 1);
    }

    // ---- promise 5: the limit 1 to 10, the window 1 to 40

    static void promise5TheLeastLimit(Check check) {
        FlakeTriage x = Make.plain(3, 1);
        x.setQuarantine(1, 40);
        check.due("none mixed", x.isQuarantined(0), false);
        Make.mix(x, 0, 1);
        check.due("one mixed", x.isQuarantined(0), true);
    }

    static void promise5LimitTooSmall(Check check) {
        check.badValue(Make.ANY, "setQuarantine(0, 10)", x -> x.setQuarantine(0, 10));
        check.badValue(Make.ANY, "setQuarantine(-1, 10)", x -> x.setQuarantine(-1, 10));
        check.badValue(Make.ANY, "setQuarantine(least, 40)", x -> x.setQuarantine(LEAST, 40));
    }

    static void promise5TheGreatestLimit(Check check) {
        FlakeTriage x = Make.plain(10, 1);
        x.setQuarantine(10, 10);
        for (int commit = 0; commit < 9; commit++) {
            Make.mix(x, 0, commit);
        }
        check.due("nine mixed", x.isQuarantined(0), false);
        Make.mix(x, 0, 9);
        check.due("ten mixed", x.isQuarantined(0), true);
    }

    static void promise5LimitTooLarge(Check check) {
        check.badValue(Make.ANY, "setQuarantine(11, 40)", x -> x.setQuarantine(11, 40));
        check.badValue(Make.ANY, "setQuarantine(11, 1)", x -> x.setQuarantine(11, 1));
        check.badValue(Make.ANY, "setQuarantine(greatest, 1)", x -> x.setQuarantine(GREATEST, 1));
    }

    static void promise5TheLeastWindow(Check check) {
        FlakeTriage x = Make.plain(3, 2);
        x.setQuarantine(1, 1);
        Make.mix(x, 0, 1);
        check.due("mixed at the one ahead of the latest", x.isQuarantined(0), false);
        Make.mix(x, 1, 2);
        check.due("mixed at the latest", x.isQuarantined(1), true);
    }

    static void promise5WindowTooSmall(Check check) {
        check.badValue(Make.ANY, "setQuarantine(1, 0)", x -> x.setQuarantine(1, 0));
        check.badValue(Make.ANY, "setQuarantine(10, -1)", x -> x.setQuarantine(10, -1));
        check.badValue(Make.ANY, "setQuarantine(1, least)", x -> x.setQuarantine(1, LEAST));
    }

    static void promise5TheGreatestWindow(Check check) {
        FlakeTriage x = Make.plain(40, 1);
        Make.mix(x, 0, 0);
        x.setQuarantine(1, 39);
        check.due("a window of 39", x.isQuarantined(0), false);
        x.setQuarantine(1, 40);
        check.due("a window of 40", x.isQuarantined(0), true);
    }

    static void promise5WindowTooLarge(Check check) {
        check.badValue(Make.ANY, "setQuarantine(1, 41)", x -> x.setQuarantine(1, 41));
        check.badValue(Make.ANY, "setQuarantine(10, 41)", x -> x.setQuarantine(10, 41));
        check.badValue(Make.ANY, "setQuarantine(1, greatest)", x -> x.setQuarantine(1, GREATEST));
    }

    static void promise5BothOutOfRange(Check check) {
        check.badValue(Make.ANY, "setQuarantine(0, 0)", x -> x.setQuarantine(0, 0));
        check.badValue(Make.ANY, "setQuarantine(11, 41)", x -> x.setQuarantine(11, 41));
        check.badValue(Make.ANY, "setQuarantine(least, greatest)", x -> x.setQuarantine(LEAST, GREATEST));
    }

    static void promise5ALimitAboveTheWindow(Check check) {
        FlakeTriage x = Make.plain(3, 1);
        for (int commit = 0; commit < 3; commit++) {
            Make.mix(x, 0, commit);
        }
        x.setQuarantine(3, 2);
        check.due("as many mixed as the limit, fewer in the window", x.isQuarantined(0), false);
        x.setQuarantine(10, 1);
        check.due("a limit of 10, a window of 1", x.isQuarantined(0), false);
        x.setQuarantine(3, 3);
        check.due("a limit as great as the window", x.isQuarantined(0), true);
    }

    // ---- promise 6: the noise 0 to 20

    static void promise6TheLeastNoise(Check check) {
        FlakeTriage x = Make.inTriage(3, 1);
        x.setNoise(5);
        x.record(0, 1, true);
        check.due("setNoise(0)", x.setNoise(0), 5);
        check.due("candidates(0)", x.candidates(0), 4);
        check.due("setNoise(0) again", x.setNoise(0), 0);
    }

    static void promise6TheGreatestNoise(Check check) {
        FlakeTriage x = Make.inTriage(3, 1);
        check.due("setNoise(20)", x.setNoise(20), 0);
        Make.record(x, 20, 0, 1, true);
        check.due("candidates(0) behind 20 runs", x.candidates(0), 6);
        x.record(0, 1, true);
        check.due("candidates(0) behind 21 runs", x.candidates(0), 4);
        check.due("setNoise(20) again", x.setNoise(20), 20);
    }

    static void promise6NoiseTooSmall(Check check) {
        check.badValue(Make.ANY, "setNoise(-1)", x -> x.setNoise(-1));
        check.badValue(Make.ANY, "setNoise(-20)", x -> x.setNoise(-20));
        check.badValue(Make.ANY, "setNoise(least)", x -> x.setNoise(LEAST));
    }

    static void promise6NoiseTooLarge(Check check) {
        check.badValue(Make.ANY, "setNoise(21)", x -> x.setNoise(21));
        check.badValue(Make.ANY, "setNoise(200)", x -> x.setNoise(200));
        check.badValue(Make.ANY, "setNoise(greatest)", x -> x.setNoise(GREATEST));
    }
}
