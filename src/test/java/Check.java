/** Counts and prints the answers that are not due; every test of the project ends with end(). */
final class Check {
    private int wrong = 0;
    private int checked = 0;

    void due(String call, long got, long want) {
        checked++;
        if (got != want) {
            wrong++;
            System.out.println(call + " answered " + got + ", due is " + want);
        }
    }

    void due(String call, boolean got, boolean want) {
        due(call, got ? 1 : 0, want ? 1 : 0);
    }

    void due(String call, String got, String want) {
        checked++;
        if (!got.equals(want)) {
            wrong++;
            System.out.println(call + " answered " + got + ", due is " + want);
        }
    }

    /** The call throws just this exception, and nothing that can be asked of the object has changed. */
    void refuses(FlakeTriage x, String call, Class<? extends RuntimeException> want, Runnable run) {
        String before = State.of(x);
        due(call, thrownBy(run), want.getSimpleName());
        due("what stands after " + call, State.of(x), before);
    }

    /** As refuses, for objects with so much in them that asking for all of it would take too many calls. */
    void raises(String call, Class<? extends RuntimeException> want, Runnable run) {
        due(call, thrownBy(run), want.getSimpleName());
    }

    private static String thrownBy(Runnable run) {
        try {
            run.run();
            return "nothing thrown";
        } catch (RuntimeException e) {
            return e.getClass().getSimpleName();
        }
    }

    void end() {
        System.out.println((checked - wrong) + " answers are as due, " + wrong + " are not");
        if (wrong != 0) {
            System.exit(1);
        }
    }
}
