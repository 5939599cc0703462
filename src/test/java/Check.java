import java.util.List;
import java.util.function.Consumer;
import java.util.function.Supplier;

/** Counts and prints the answers that are not due; every test of the project ends with end(). */
final class Check {
    private static final Class<IndexOutOfBoundsException> NO_SUCH = IndexOutOfBoundsException.class;
    private static final Class<IllegalArgumentException> BAD_VALUE = IllegalArgumentException.class;
    private static final Class<IllegalStateException> NOT_NOW = IllegalStateException.class;

    private String name = "";
    private int wrong = 0;
    private int checked = 0;

    /** What is printed from here on tells this name, too. */
    void begin(String newName) {
        name = newName + ": ";
    }

    void due(String call, long got, long want) {
        due(call, String.valueOf(got), String.valueOf(want));
    }

    void due(String call, boolean got, boolean want) {
        due(call, String.valueOf(got), String.valueOf(want));
    }

    void due(String call, String got, String want) {
        checked++;
        if (!got.equals(want)) {
            wrong++;
            System.out.println(name + call + " answered " + got + ", due is " + want);
        }
    }

    /** The call throws IndexOutOfBoundsException on each of these objects, and changes nothing. */
    void noSuch(List<Supplier<FlakeTriage>> made, String call, Consumer<FlakeTriage> run) {
        refused(made, call, NO_SUCH, run);
    }

    /** The call throws IllegalArgumentException on each of these objects, and changes nothing. */
    void badValue(List<Supplier<FlakeTriage>> made, String call, Consumer<FlakeTriage> run) {
        refused(made, call, BAD_VALUE, run);
    }

    /** The call throws IllegalStateException on each of these objects, and changes nothing. */
    void notNow(List<Supplier<FlakeTriage>> made, String call, Consumer<FlakeTriage> run) {
        refused(made, call, NOT_NOW, run);
    }

    private void refused(List<Supplier<FlakeTriage>> made, String call, Class<?> want, Consumer<FlakeTriage> run) {
        int number = 0;
        for (Supplier<FlakeTriage> make : made) {
            number++;
            String where = call + " of object " + number;
            due(where, thrownBy(run, make.get()), want.getSimpleName());
            for (Telling telling : Telling.values()) {
                FlakeTriage without = make.get();
                FlakeTriage behind = make.get();
                thrownBy(run, behind);
                due(telling + " behind " + where, telling.of(behind), telling.of(without));
            }
        }
    }

    private static String thrownBy(Consumer<FlakeTriage> run, FlakeTriage x) {
        try {
            run.accept(x);
            return "nothing thrown";
        } catch (RuntimeException e) {
            return e.getClass().getSimpleName();
        }
    }

    void end() {
        System.out.println((checked - wrong) + " answers are as due, " + wrong + " are not");
        if (wrong != 0) {
            System.exit(1);
        }
    }
}
