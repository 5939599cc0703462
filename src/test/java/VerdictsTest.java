/** Promises 19 to 23 in ordinary use; their boundary cases are in EdgesOfVerdictsTest. */
final class VerdictsTest {
    public static void main(String[] args) {
        Cases.run(VerdictsTest.class);
    }

    static void promise19Runs(Check check) {
        FlakeTriage x = Make.plain(40, 12);
        check.due("runs(0) without runs", x.runs(0), 0);
        for (int commit = 0; commit < 40; commit++) {
            Make.mix(x, 11, commit);
        }
        check.due("runs(11) at all commits", x.runs(11), 80);
        check.due("runs(10) of another test", x.runs(10), 0);
    }

    static void promise20Verdict(Check check) {
        FlakeTriage x = Make.plain(40, 12);
        check.due("verdict(11, 39) without runs", x.verdict(11, 39), 0);
        x.record(11, 39, true);
        check.due("verdict(11, 39) passed", x.verdict(11, 39), 1);
        x.record(11, 38, false);
        check.due("verdict(11, 38) failed", x.verdict(11, 38), 2);
        x.record(11, 39, false);
        x.record(11, 38, true);
        check.due("verdict(11, 39) passed, then failed", x.verdict(11, 39), 3);
        check.due("verdict(11, 38) failed, then passed", x.verdict(11, 38), 3);
        check.due("verdict(10, 39) of another test", x.verdict(10, 39), 0);
        check.due("verdict(11, 37) at another commit", x.verdict(11, 37), 0);
    }

    static void promise21Failing(Check check) {
        FlakeTriage x = Make.plain(3, 2);
        x.record(0, 0, false);
        x.record(0, 1, true);
        check.due("failing(0), 1 of 2", x.failing(0), 50);
        x.record(0, 2, true);
        check.due("failing(0), 1 of 3", x.failing(0), 33);
        Make.record(x, 3, 0, 2, false);
        check.due("failing(0), 4 of 6", x.failing(0), 66);
        x.record(1, 2, true);
        check.due("failing(1) of another test", x.failing(1), 0);
    }

    static void promise22IsQuarantined(Check check) {
        FlakeTriage x = Make.plain(5, 1);
        x.setQuarantine(2, 3);
        Make.mix(x, 0, 1);
        Make.mix(x, 0, 2);
        check.due("quarantine with one of the latest three mixed", x.isQuarantined(0), false);
        x.record(0, 3, false);
        x.record(0, 4, true);
        check.due("quarantine with steady commits behind", x.isQuarantined(0), false);
        x.record(0, 3, true);
        check.due("quarantine with two of the latest three mixed", x.isQuarantined(0), true);
        x.record(0, 4, false);
        check.due("quarantine with more than the limit", x.isQuarantined(0), true);
        x.addCommit(0);
        check.due("quarantine behind one commit more", x.isQuarantined(0), true);
        x.addCommit(0);
        check.due("quarantine behind two commits more", x.isQuarantined(0), false);
    }

    static void promise23Broken(Check check) {
        FlakeTriage x = Make.plain(3, 12);
        check.due("broken(0) without runs", x.broken(0), 0);
        x.record(0, 0, false);
        x.record(1, 0, true);
        Make.mix(x, 2, 0);
        x.record(11, 0, false);
        x.record(11, 0, false);
        x.record(3, 1, false);
        check.due("broken(0)", x.broken(0), 1 + 2048);
        check.due("broken(1)", x.broken(1), 8);
        Make.mix(x, 11, 1);
        Make.mix(x, 11, 2);
        check.due("broken(0) with a test in quarantine", x.broken(0), 1);
        x.setQuarantine(3, 10);
        check.due("broken(0) when it is there no longer", x.broken(0), 1 + 2048);
    }
}
