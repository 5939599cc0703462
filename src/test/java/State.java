/** All that can be asked of an object, as one text. */
final class State {
    private State() {
    }

    static String of(FlakeTriage x) {
        StringBuilder text = new StringBuilder();
        int commits = x.commits();
        int tests = x.tests();
        text.append(commits).append(' ').append(tests).append(' ');
        text.append(x.budget()).append(' ').append(x.queued());
        for (int commit = 0; commit < commits; commit++) {
            text.append("; commit ").append(x.touches(commit)).append(' ').append(x.broken(commit));
        }
        for (int test = 0; test < tests; test++) {
            text.append("; test ").append(ofTest(x, test, commits));
        }
        return text.toString();
    }

    private static String ofTest(FlakeTriage x, int test, int commits) {
        StringBuilder text = new StringBuilder();
        text.append(x.partsOf(test)).append(' ').append(x.runs(test)).append(' ');
        text.append(x.failing(test)).append(' ').append(x.isQuarantined(test));
        for (int commit = 0; commit < commits; commit++) {
            text.append(' ').append(x.verdict(test, commit));
        }
        return text.append(ofTriage(x, test, commits)).toString();
    }

    private static String ofTriage(FlakeTriage x, int test, int commits) {
        StringBuilder text = new StringBuilder();
        try {
            text.append(" in triage ").append(x.suspects(test)).append(' ').append(x.candidates(test));
            text.append(' ').append(x.likeliest(test)).append(' ').append(x.next(test));
            for (int commit = 0; commit < commits; commit++) {
                text.append(' ').append(x.contradictions(test, commit));
            }
            return text.toString();
        } catch (IllegalStateException e) {
            return " in no triage";
        }
    }
}
