/** Promises 1 to 6 in ordinary use; their boundary cases are in EdgesOfSettingsTest. */
final class SettingsTest {
    public static void main(String[] args) {
        Cases.run(SettingsTest.class);
    }

    static void promise1NewObject(Check check) {
        FlakeTriage x = new FlakeTriage();
        check.due("commits()", x.commits(), 0);
        check.due("tests()", x.tests(), 0);
        check.due("budget()", x.budget(), 0);
        check.due("queued()", x.queued(), 0);
    }

    static void promise2SetUses(Check check) {
        FlakeTriage x = new FlakeTriage();
        check.due("setUses(3, 6)", x.setUses(3, 6), 0);
        check.due("setUses(3, 1)", x.setUses(3, 1), 6);
        check.due("setUses(1, 64)", x.setUses(1, 64), 0);
        check.due("setUses(3, 2)", x.setUses(3, 2), 1);
        x.addTest(8);
        check.due("partsOf(0)", x.partsOf(0), 8 + 2 + 64);
    }

    static void promise3AddCommit(Check check) {
        FlakeTriage x = new FlakeTriage();
        x.addTest(4);
        for (int commit = 0; commit < 40; commit++) {
            check.due("addCommit", x.addCommit(commit), commit);
        }
        for (int commit = 0; commit < 40; commit++) {
            check.due("touches(" + commit + ")", x.touches(commit), (commit & 4) / 4);
        }
    }

    static void promise4AddTest(Check check) {
        FlakeTriage x = new FlakeTriage();
        for (int test = 0; test < 12; test++) {
            check.due("addTest", x.addTest(100 * test), test);
        }
        for (int test = 0; test < 12; test++) {
            check.due("partsOf(" + test + ")", x.partsOf(test), 100 * test);
        }
    }

    static void promise5SetQuarantine(Check check) {
        FlakeTriage x = Make.plain(20, 1);
        Make.mix(x, 0, 8);
        Make.mix(x, 0, 12);
        Make.mix(x, 0, 16);
        x.setQuarantine(3, 15);
        check.due("three of the latest 15", x.isQuarantined(0), true);
        x.setQuarantine(3, 10);
        check.due("two of the latest 10, the limit three", x.isQuarantined(0), false);
        x.setQuarantine(2, 10);
        check.due("two of the latest 10, the limit two", x.isQuarantined(0), true);
        x.setQuarantine(2, 5);
        check.due("one of the latest 5, the limit two", x.isQuarantined(0), false);
    }

    static void promise6SetNoise(Check check) {
        FlakeTriage x = Make.inTriage(4, 1);
        Make.record(x, 5, 0, 2, true);
        check.due("setNoise(5)", x.setNoise(5), 0);
        check.due("candidates(0) with a noise of 5", x.candidates(0), 14);
        check.due("setNoise(4)", x.setNoise(4), 5);
        check.due("candidates(0) with a noise of 4", x.candidates(0), 8);
    }
}
