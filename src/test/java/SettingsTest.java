/** Promises 1 to 6: a new object, parts, commits, tests, settings. */
final class SettingsTest {
    private static final Class<IndexOutOfBoundsException> NO_SUCH = IndexOutOfBoundsException.class;
    private static final Class<IllegalArgumentException> BAD_VALUE = IllegalArgumentException.class;
    private static final Class<IllegalStateException> NOT_NOW = IllegalStateException.class;
    private static final int[] NO_PARTS = {-1, 65536, Integer.MIN_VALUE, Integer.MAX_VALUE};

    private static final Check check = new Check();

    public static void main(String[] args) {
        promise1NewObject();
        promise2SetUses();
        promise2SetUsesRefuses();
        promise3AddCommit();
        promise4AddTest();
        promise5SetQuarantine();
        promise5SetQuarantineRefuses();
        promise6SetNoise();
        check.end();
    }

    private static void promise1NewObject() {
        FlakeTriage x = new FlakeTriage();
        check.due("commits() of a new object", x.commits(), 0);
        check.due("tests() of a new object", x.tests(), 0);
        check.due("budget() of a new object", x.budget(), 0);
        check.due("queued() of a new object", x.queued(), 0);
        check.due("the noise of a new object", x.setNoise(0), 0);
        for (int part = 0; part < 16; part++) {
            check.due("what part " + part + " of a new object uses", x.setUses(part, 0), 0);
        }
        FlakeTriage other = Make.plain(2, 2);
        check.due("commits() beside another object", x.commits(), 0);
        check.due("tests() of the other object", other.tests(), 2);
        firstQuarantineIsTwoOfTen();
    }

    private static void firstQuarantineIsTwoOfTen() {
        FlakeTriage x = Make.plain(11, 1);
        Make.mix(x, 0, 0);
        Make.mix(x, 0, 1);
        check.due("quarantine with one of the latest ten mixed", x.isQuarantined(0), false);
        Make.mix(x, 0, 10);
        check.due("quarantine with two of the latest ten mixed", x.isQuarantined(0), true);
    }

    private static void promise2SetUses() {
        FlakeTriage x = new FlakeTriage();
        check.due("setUses(0, 65535)", x.setUses(0, 65535), 0);
        check.due("setUses(0, 1)", x.setUses(0, 1), 65535);
        check.due("setUses(15, 32768)", x.setUses(15, 32768), 0);
        check.due("setUses(15, 6)", x.setUses(15, 6), 32768);
        check.due("setUses(0, 0)", x.setUses(0, 0), 1);
        check.due("setUses(0, 0) again", x.setUses(0, 0), 0);
        x.addTest(32768);
        check.due("partsOf(0) by what part 15 uses", x.partsOf(0), 32768 + 6);
        x.setUses(15, 0);
        check.due("partsOf(0) when part 15 uses nothing", x.partsOf(0), 32768);
    }

    private static void promise2SetUsesRefuses() {
        FlakeTriage x = Make.plain(1, 1);
        x.setUses(0, 5);
        check.refuses(x, "setUses(-1, 0)", NO_SUCH, () -> x.setUses(-1, 0));
        check.refuses(x, "setUses(16, 0)", NO_SUCH, () -> x.setUses(16, 0));
        check.refuses(x, "setUses(16, -1)", NO_SUCH, () -> x.setUses(16, -1));
        check.refuses(x, "setUses(least, 0)", NO_SUCH, () -> x.setUses(Integer.MIN_VALUE, 0));
        check.refuses(x, "setUses(greatest, 0)", NO_SUCH, () -> x.setUses(Integer.MAX_VALUE, 0));
        for (int parts : NO_PARTS) {
            check.refuses(x, "setUses(0, " + parts + ")", BAD_VALUE, () -> x.setUses(0, parts));
        }
        check.due("setUses(0, 0) after what was refused", x.setUses(0, 0), 5);
    }

    private static void promise3AddCommit() {
        FlakeTriage x = new FlakeTriage();
        for (int parts : NO_PARTS) {
            check.refuses(x, "addCommit(" + parts + ")", BAD_VALUE, () -> x.addCommit(parts));
        }
        for (int commit = 0; commit < 40; commit++) {
            check.due("addCommit", x.addCommit(commit % 2 == 0 ? 0 : 65535), commit);
        }
        check.raises("addCommit(0) with 40 commits", NOT_NOW, () -> x.addCommit(0));
        check.raises("addCommit(-1) with 40 commits", BAD_VALUE, () -> x.addCommit(-1));
        check.raises("addCommit(65536) with 40 commits", BAD_VALUE, () -> x.addCommit(65536));
        check.due("commits()", x.commits(), 40);
        x.addTest(32768);
        check.due("touches(38)", x.touches(38), 0);
        check.due("touches(39)", x.touches(39), 1);
    }

    private static void promise4AddTest() {
        FlakeTriage x = new FlakeTriage();
        for (int parts : NO_PARTS) {
            check.refuses(x, "addTest(" + parts + ")", BAD_VALUE, () -> x.addTest(parts));
        }
        for (int test = 0; test < 12; test++) {
            check.due("addTest", x.addTest(test == 11 ? 65535 : test), test);
        }
        check.refuses(x, "addTest(0) with 12 tests", NOT_NOW, () -> x.addTest(0));
        check.raises("addTest(-1) with 12 tests", BAD_VALUE, () -> x.addTest(-1));
        check.raises("addTest(65536) with 12 tests", BAD_VALUE, () -> x.addTest(65536));
        check.due("tests()", x.tests(), 12);
        check.due("partsOf(10)", x.partsOf(10), 10);
        check.due("partsOf(11)", x.partsOf(11), 65535);
    }

    private static void promise5SetQuarantine() {
        FlakeTriage x = Make.plain(40, 2);
        for (int commit = 0; commit < 10; commit++) {
            Make.mix(x, 0, commit);
        }
        x.setQuarantine(10, 40);
        check.due("ten of 40 mixed, limit 10", x.isQuarantined(0), true);
        x.setQuarantine(10, 39);
        check.due("nine of 39 mixed, limit 10", x.isQuarantined(0), false);
        x.setQuarantine(9, 39);
        check.due("nine of 39 mixed, limit 9", x.isQuarantined(0), true);
        x.setQuarantine(1, 1);
        check.due("none of the latest mixed, limit 1", x.isQuarantined(0), false);
        Make.mix(x, 1, 39);
        check.due("the latest mixed, limit 1", x.isQuarantined(1), true);
        x.setQuarantine(2, 1);
        check.due("the latest mixed, limit 2", x.isQuarantined(1), false);
    }

    private static void promise5SetQuarantineRefuses() {
        FlakeTriage x = Make.plain(2, 2);
        Make.mix(x, 0, 0);
        Make.mix(x, 0, 1);
        Make.mix(x, 1, 1);
        int[][] refused = {{0, 1}, {11, 1}, {1, 0}, {1, 41}, {-1, -1}, {0, 41}};
        for (int[] pair : refused) {
            check.refuses(x, "setQuarantine(" + pair[0] + ", " + pair[1] + ")", BAD_VALUE,
                    () -> x.setQuarantine(pair[0], pair[1]));
        }
        check.raises("setQuarantine(least, least)", BAD_VALUE,
                () -> x.setQuarantine(Integer.MIN_VALUE, Integer.MIN_VALUE));
        check.raises("setQuarantine(greatest, greatest)", BAD_VALUE,
                () -> x.setQuarantine(Integer.MAX_VALUE, Integer.MAX_VALUE));
        check.due("quarantine of a test mixed twice", x.isQuarantined(0), true);
        check.due("quarantine of a test mixed once", x.isQuarantined(1), false);
    }

    private static void promise6SetNoise() {
        FlakeTriage x = Make.plain(3, 1);
        x.triage(0, 0, 2);
        Make.record(x, 20, 0, 2, true);
        check.due("candidates with noise 0", x.candidates(0), 0);
        check.due("setNoise(20)", x.setNoise(20), 0);
        check.due("candidates with noise 20", x.candidates(0), 6);
        check.due("setNoise(19)", x.setNoise(19), 20);
        check.due("candidates with noise 19", x.candidates(0), 0);
        int[] refused = {-1, 21, Integer.MIN_VALUE, Integer.MAX_VALUE};
        for (int runs : refused) {
            check.refuses(x, "setNoise(" + runs + ")", BAD_VALUE, () -> x.setNoise(runs));
        }
        check.due("setNoise(0) after what was refused", x.setNoise(0), 19);
    }
}
