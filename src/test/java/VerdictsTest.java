/** Promises 19 to 23: runs, verdict, failing, isQuarantined, broken. */
final class VerdictsTest {
    private static final Class<IndexOutOfBoundsException> NO_SUCH = IndexOutOfBoundsException.class;

    private static final Check check = new Check();

    public static void main(String[] args) {
        promise19Runs();
        promise20Verdict();
        promise21Failing();
        promise22IsQuarantined();
        promise22FewerCommitsThanTheWindow();
        promise23Broken();
        refusals();
        check.end();
    }

    private static void promise19Runs() {
        FlakeTriage x = Make.plain(40, 12);
        check.due("runs(0) without runs", x.runs(0), 0);
        for (int commit = 0; commit < 40; commit++) {
            Make.mix(x, 11, commit);
        }
        check.due("runs(11) at all commits", x.runs(11), 80);
        check.due("runs(10) of another test", x.runs(10), 0);
    }

    private static void promise20Verdict() {
        FlakeTriage x = Make.plain(40, 12);
        check.due("verdict(11, 39) without runs", x.verdict(11, 39), 0);
        x.record(11, 39, true);
        check.due("verdict(11, 39) passed", x.verdict(11, 39), 1);
        x.record(11, 38, false);
        check.due("verdict(11, 38) failed", x.verdict(11, 38), 2);
        x.record(11, 39, false);
        x.record(11, 38, true);
        check.due("verdict(11, 39) passed, then failed", x.verdict(11, 39), 3);
        check.due("verdict(11, 38) failed, then passed", x.verdict(11, 38), 3);
        check.due("verdict(10, 39) of another test", x.verdict(10, 39), 0);
        check.due("verdict(11, 37) at another commit", x.verdict(11, 37), 0);
    }

    private static void promise21Failing() {
        FlakeTriage x = Make.plain(3, 3);
        check.due("failing(0) without runs", x.failing(0), 0);
        x.record(0, 0, false);
        check.due("failing(0) of 1", x.failing(0), 100);
        x.record(0, 1, true);
        check.due("failing(0), 1 of 2", x.failing(0), 50);
        x.record(0, 2, true);
        check.due("failing(0), 1 of 3", x.failing(0), 33);
        x.record(0, 2, false);
        x.record(0, 2, false);
        x.record(0, 2, false);
        check.due("failing(0), 4 of 6", x.failing(0), 66);
        x.record(1, 2, true);
        check.due("failing(1), none of 1", x.failing(1), 0);
        Make.record(x, 199, 2, 1, true);
        x.record(2, 0, false);
        check.due("failing(2), 1 of 200", x.failing(2), 0);
        FlakeTriage y = Make.plain(1, 1);
        Make.record(y, 199, 0, 0, false);
        y.record(0, 0, true);
        check.due("failing(0), 199 of 200", y.failing(0), 99);
    }

    private static void promise22IsQuarantined() {
        FlakeTriage x = Make.plain(5, 1);
        x.setQuarantine(2, 3);
        Make.mix(x, 0, 1);
        Make.mix(x, 0, 2);
        check.due("quarantine with one of the latest three mixed", x.isQuarantined(0), false);
        x.record(0, 3, false);
        x.record(0, 4, true);
        check.due("quarantine with steady commits behind", x.isQuarantined(0), false);
        x.record(0, 3, true);
        check.due("quarantine with two of the latest three mixed", x.isQuarantined(0), true);
        x.record(0, 4, false);
        check.due("quarantine with more than the limit", x.isQuarantined(0), true);
        x.addCommit(0);
        check.due("quarantine behind one commit more", x.isQuarantined(0), true);
        x.addCommit(0);
        check.due("quarantine behind two commits more", x.isQuarantined(0), false);
    }

    private static void promise22FewerCommitsThanTheWindow() {
        FlakeTriage x = Make.plain(1, 1);
        x.setQuarantine(1, 40);
        check.due("quarantine without runs", x.isQuarantined(0), false);
        Make.mix(x, 0, 0);
        check.due("quarantine with the only commit mixed", x.isQuarantined(0), true);
        FlakeTriage none = Make.plain(0, 1);
        none.setQuarantine(1, 1);
        check.due("quarantine without commits", none.isQuarantined(0), false);
    }

    private static void promise23Broken() {
        FlakeTriage x = Make.plain(3, 12);
        check.due("broken(0) without runs", x.broken(0), 0);
        x.record(0, 0, false);
        x.record(1, 0, true);
        Make.mix(x, 2, 0);
        x.record(11, 0, false);
        x.record(11, 0, false);
        x.record(3, 1, false);
        check.due("broken(0)", x.broken(0), 1 + 2048);
        check.due("broken(1)", x.broken(1), 8);
        Make.mix(x, 11, 1);
        Make.mix(x, 11, 2);
        check.due("broken(0) with a test in quarantine", x.broken(0), 1);
        x.setQuarantine(3, 10);
        check.due("broken(0) when it is there no longer", x.broken(0), 1 + 2048);
    }

    private static void refusals() {
        FlakeTriage x = Make.plain(2, 1);
        FlakeTriage y = Make.plain(1, 2);
        int[] noTest = {-1, 2, Integer.MIN_VALUE, Integer.MAX_VALUE};
        for (int test : noTest) {
            check.refuses(x, "runs(" + test + ")", NO_SUCH, () -> x.runs(test));
            check.refuses(x, "failing(" + test + ")", NO_SUCH, () -> x.failing(test));
            check.refuses(x, "isQuarantined(" + test + ")", NO_SUCH, () -> x.isQuarantined(test));
            check.raises("verdict(" + test + ", 0)", NO_SUCH, () -> y.verdict(test, 0));
        }
        check.raises("runs(1)", NO_SUCH, () -> x.runs(1));
        check.raises("failing(1)", NO_SUCH, () -> x.failing(1));
        check.raises("isQuarantined(1)", NO_SUCH, () -> x.isQuarantined(1));
        check.raises("verdict(1, 0)", NO_SUCH, () -> x.verdict(1, 0));
        int[] noCommit = {-1, 1, Integer.MIN_VALUE, Integer.MAX_VALUE};
        for (int commit : noCommit) {
            check.refuses(y, "verdict(0, " + commit + ")", NO_SUCH, () -> y.verdict(0, commit));
            check.refuses(y, "broken(" + commit + ")", NO_SUCH, () -> y.broken(commit));
        }
    }
}
