import java.util.function.LongSupplier;

/** Long runs of calls, the same each time, whose answers are those of the model. */
final class ModelTest {
    private static final int RUNS = 1500;
    private static final int CALLS = 512;

    private static final Check check = new Check();

    private final int run;
    private final FlakeTriage x = new FlakeTriage();
    private final Model model = new Model();
    private long seed;
    private int culprit = 0;
    // Nearly all calls record runs, and of few tests, so that some come to have 200.
    private final boolean manyRecords;

    private ModelTest(int run) {
        this.run = run;
        this.seed = run;
        this.manyRecords = run % 4 == 0;
    }

    public static void main(String[] args) {
        for (int run = 0; run < RUNS; run++) {
            new ModelTest(run).go();
        }
        check.end();
    }

    private void go() {
        int calls = 0;
        int firstCommits = any(41);
        int firstTests = any(13);
        for (int i = 0; i < firstCommits; i++, calls++) {
            addCommit(someParts());
        }
        for (int i = 0; i < firstTests; i++, calls++) {
            addTest(someParts());
        }
        culprit = any(40);
        for (; calls < CALLS; calls++) {
            if (manyRecords ? any(8) > 0 : any(3) == 0) {
                change(any(manyRecords ? 60 : 30));
            } else if (any(2) == 0) {
                askOfTriage(any(5));
            } else {
                ask(any(11));
            }
        }
    }

    /** A number from 0 up to below the bound. */
    private int any(int bound) {
        seed = seed * 6364136223846793005L + 1442695040888963407L;
        return (int) ((seed >>> 33) % bound);
    }

    /** Mostly a number from 0 up to below the count, sometimes one that is off by little or by much. */
    private int mostly(int count) {
        int kind = any(30);
        if (kind > 1 && count > 0) {
            return any(count);
        }
        int[] off = {-1, count, count + 1, Integer.MIN_VALUE, Integer.MAX_VALUE};
        return off[any(off.length)];
    }

    private int from(int least, int greatest) {
        int value = mostly(greatest - least + 1);
        return value == Integer.MIN_VALUE || value == Integer.MAX_VALUE ? value : value + least;
    }

    /** Few parts, so that not all touches all. */
    private int someParts() {
        int kind = any(20);
        if (kind == 0) {
            return mostly(65536);
        }
        int parts = 1 << any(16);
        if (kind < 8) {
            parts |= 1 << any(16);
        }
        return kind == 8 ? 0 : kind < 14 ? parts & 7 | 1 : parts;
    }

    private int aTest() {
        int some = manyRecords ? 1 : 4;
        return mostly(any(6) > 0 ? Math.min(some, model.tests()) : model.tests());
    }

    private int aCommit() {
        return mostly(model.commits());
    }

    private void change(int kind) {
        switch (kind) {
            case 0 -> setUses(from(0, 15), someParts());
            case 1 -> addCommit(someParts());
            case 2 -> addTest(someParts());
            case 3 -> setQuarantine(from(1, any(4) == 0 ? 10 : 3), from(1, 40));
            case 4 -> same("setNoise", from(0, any(3) == 0 ? 20 : 2), x::setNoise, model::setNoise);
            case 5, 6, 7 -> triage(aTest(), any(4) == 0 ? aCommit() : 0, aCommit());
            case 8 -> same("close", aTest(), x::close, model::close);
            case 9, 10, 11 -> same("enqueue", aTest(), x::enqueue, model::enqueue);
            case 12 -> same("newDay", from(0, 100), x::newDay, model::newDay);
            case 13, 14, 15 -> same("take()", x::take, model::take);
            default -> recordMostlyRight(aTest(), aCommit());
        }
    }

    private void recordMostlyRight(int test, int commit) {
        boolean wrong = any(12) == 0;
        record(test, commit, commit < culprit != wrong);
    }

    private void ask(int kind) {
        switch (kind) {
            case 0 -> same("commits()", x::commits, model::commits);
            case 1 -> same("tests()", x::tests, model::tests);
            case 2 -> same("budget()", x::budget, model::budget);
            case 3 -> same("queued()", x::queued, model::queued);
            case 4 -> same("partsOf", aTest(), x::partsOf, model::partsOf);
            case 5 -> same("touches", aCommit(), x::touches, model::touches);
            case 6 -> same("runs", aTest(), x::runs, model::runs);
            case 7 -> verdict(aTest(), aCommit());
            case 8 -> same("failing", aTest(), x::failing, model::failing);
            case 9 -> same("isQuarantined", aTest(), test -> x.isQuarantined(test) ? 1 : 0,
                    test -> model.isQuarantined(test) ? 1 : 0);
            default -> same("broken", aCommit(), x::broken, model::broken);
        }
    }

    private void askOfTriage(int kind) {
        switch (kind) {
            case 0 -> same("suspects", aTest(), x::suspects, model::suspects);
            case 1 -> contradictions(aTest(), aCommit());
            case 2 -> same("candidates", aTest(), x::candidates, model::candidates);
            case 3 -> same("likeliest", aTest(), x::likeliest, model::likeliest);
            default -> same("next", aTest(), x::next, model::next);
        }
    }

    private void addCommit(int parts) {
        same("addCommit", parts, x::addCommit, model::addCommit);
    }

    private void addTest(int parts) {
        same("addTest", parts, x::addTest, model::addTest);
    }

    private void setUses(int part, int parts) {
        same("setUses(" + part + ", " + parts + ")", () -> x.setUses(part, parts), () -> model.setUses(part, parts));
    }

    private void setQuarantine(int limit, int window) {
        same("setQuarantine(" + limit + ", " + window + ")", () -> {
            x.setQuarantine(limit, window);
            return 0;
        }, () -> {
            model.setQuarantine(limit, window);
            return 0;
        });
    }

    private void triage(int test, int good, int bad) {
        same("triage(" + test + ", " + good + ", " + bad + ")", () -> x.triage(test, good, bad),
                () -> model.triage(test, good, bad));
    }

    private void record(int test, int commit, boolean passed) {
        same("record(" + test + ", " + commit + ", " + passed + ")", () -> x.record(test, commit, passed),
                () -> model.record(test, commit, passed));
    }

    private void verdict(int test, int commit) {
        same("verdict(" + test + ", " + commit + ")", () -> x.verdict(test, commit),
                () -> model.verdict(test, commit));
    }

    private void contradictions(int test, int commit) {
        same("contradictions(" + test + ", " + commit + ")", () -> x.contradictions(test, commit),
                () -> model.contradictions(test, commit));
    }

    private interface OfOne {
        long answer(int argument);
    }

    private void same(String call, int argument, OfOne got, OfOne want) {
        same(call + "(" + argument + ")", () -> got.answer(argument), () -> want.answer(argument));
    }

    private void same(String call, LongSupplier got, LongSupplier want) {
        check.due("run " + run + ": " + call, outcome(got), outcome(want));
    }

    private static String outcome(LongSupplier call) {
        try {
            return String.valueOf(call.getAsLong());
        } catch (RuntimeException e) {
            return "throws " + e.getClass().getSimpleName();
        }
    }
}
