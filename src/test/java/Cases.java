import java.lang.reflect.InvocationTargetException;
import java.lang.reflect.Method;
import java.util.Arrays;
import java.util.Comparator;
import java.util.List;

/** Runs the cases of a test: its methods whose names begin with "promise" and that take a check. */
final class Cases {
    private Cases() {
    }

    static void run(Class<?> test) {
        Check check = new Check();
        List<Method> cases = Arrays.stream(test.getDeclaredMethods())
                .filter(method -> method.getName().startsWith("promise"))
                .sorted(Comparator.comparing(Method::getName))
                .toList();
        for (Method one : cases) {
            check.begin(test.getName() + "." + one.getName());
            check.due("the case", outcome(one, check), "ran to its end");
        }
        check.begin(test.getName());
        check.due("whether there are cases", !cases.isEmpty(), true);
        System.out.print(test.getName() + ": " + cases.size() + " cases, ");
        check.end();
    }

    private static String outcome(Method one, Check check) {
        try {
            one.invoke(null, check);
            return "ran to its end";
        } catch (InvocationTargetException e) {
            return "threw " + e.getCause();
        } catch (IllegalAccessException e) {
            return "could not be run: " + e;
        }
    }
}
