import java.util.function.BiFunction;
import java.util.function.IntFunction;

/**
 * All that an object can tell of its state, as texts. Each text is asked of an object of its own, as some of the
 * calls change it, and all of them together would be more than the 512 that an object is promised for.
 */
enum Telling {
    WHAT_THERE_IS(x -> x.commits() + " " + x.tests() + " " + x.budget() + " " + x.queued()),
    TOUCHED_AND_BROKEN(x -> overCommits(x, commit -> x.touches(commit) + " " + x.broken(commit))),
    TESTS(x -> overTests(x, 0, 12, test -> x.partsOf(test) + " " + x.runs(test) + " " + x.failing(test) + " "
            + x.isQuarantined(test))),
    VERDICTS_OF_FIRST_TESTS(x -> overBoth(x, 0, 6, x::verdict)),
    VERDICTS_OF_LAST_TESTS(x -> overBoth(x, 6, 12, x::verdict)),
    CULPRITS(x -> overTests(x, 0, 12, test -> inTriage(() -> x.suspects(test) + " " + x.candidates(test) + " "
            + x.likeliest(test) + " " + x.next(test)))),
    CONTRADICTIONS_OF_FIRST_TESTS(x -> overBoth(x, 0, 6,
            (test, commit) -> inTriage(() -> String.valueOf(x.contradictions(test, commit))))),
    CONTRADICTIONS_OF_LAST_TESTS(x -> overBoth(x, 6, 12,
            (test, commit) -> inTriage(() -> String.valueOf(x.contradictions(test, commit))))),
    QUEUE(Telling::queue),
    NOISE_AND_USES(Telling::noiseAndUses),
    MIXED_FROM_THE_LATEST(x -> quarantineAsMixed(x, true)),
    MIXED_FROM_THE_FIRST(x -> quarantineAsMixed(x, false));

    private interface Asked {
        String of(FlakeTriage x);
    }

    private interface AskedOfTriage {
        String answer();
    }

    private final Asked asked;

    Telling(Asked asked) {
        this.asked = asked;
    }

    String of(FlakeTriage x) {
        return asked.of(x);
    }

    private static String overCommits(FlakeTriage x, IntFunction<String> answer) {
        StringBuilder text = new StringBuilder();
        int commits = x.commits();
        for (int commit = 0; commit < commits; commit++) {
            text.append(answer.apply(commit)).append("; ");
        }
        return text.toString();
    }

    private static String overTests(FlakeTriage x, int first, int end, IntFunction<String> answer) {
        StringBuilder text = new StringBuilder();
        int tests = Math.min(end, x.tests());
        for (int test = first; test < tests; test++) {
            text.append(answer.apply(test)).append("; ");
        }
        return text.toString();
    }

    private static String overBoth(FlakeTriage x, int first, int end, BiFunction<Integer, Integer, Object> answer) {
        return overTests(x, first, end,
                test -> overCommits(x, commit -> String.valueOf(answer.apply(test, commit))));
    }

    private static String inTriage(AskedOfTriage asked) {
        try {
            return asked.answer();
        } catch (IllegalStateException e) {
            return "in no triage";
        }
    }

    /** Which tests stay in the queue, and in which order, shows when all are taken again and again. */
    private static String queue(FlakeTriage x) {
        StringBuilder text = new StringBuilder();
        text.append(x.newDay(40)).append(" left; ");
        for (int i = 0; i < 40 && x.queued() > 0; i++) {
            text.append(x.take()).append(' ');
        }
        return text.append("; ").append(x.budget()).toString();
    }

    private static String noiseAndUses(FlakeTriage x) {
        StringBuilder text = new StringBuilder();
        text.append(x.setNoise(0)).append("; ");
        for (int part = 0; part < 16; part++) {
            text.append(x.setUses(part, 0)).append(' ');
        }
        return text.toString();
    }

    /** The limit and the window show as commit after commit becomes mixed. */
    private static String quarantineAsMixed(FlakeTriage x, boolean fromTheLatest) {
        StringBuilder text = new StringBuilder();
        int test = x.tests() < 12 ? x.addTest(0) : 11;
        int commits = x.commits();
        for (int i = 0; i < commits; i++) {
            Make.mix(x, test, fromTheLatest ? commits - 1 - i : i);
            text.append(x.isQuarantined(test)).append(' ');
        }
        return text.toString();
    }
}
