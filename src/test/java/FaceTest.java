import java.lang.reflect.Field;
import java.lang.reflect.Method;
import java.lang.reflect.Modifier;
import java.util.Arrays;
import java.util.Set;
import java.util.TreeSet;
import java.util.stream.Collectors;

/** The public face is the document's, and nothing else can be seen from outside. */
final class FaceTest {
    private static final String NO_SUCH = " throws IndexOutOfBoundsException";
    private static final String BAD_VALUE = " throws IllegalArgumentException";
    private static final String NO_SUCH_OR_BAD_VALUE = NO_SUCH + ", IllegalArgumentException";
    private static final String NO_SUCH_OR_NOT_NOW = NO_SUCH + ", IllegalStateException";
    private static final String BAD_VALUE_OR_NOT_NOW = BAD_VALUE + ", IllegalStateException";

    private static final Set<String> FACE = Set.of(
            "int setUses(int, int)" + NO_SUCH_OR_BAD_VALUE,
            "int addCommit(int)" + BAD_VALUE_OR_NOT_NOW,
            "int addTest(int)" + BAD_VALUE_OR_NOT_NOW,
            "void setQuarantine(int, int)" + BAD_VALUE,
            "int setNoise(int)" + BAD_VALUE,
            "int record(int, int, boolean)" + NO_SUCH_OR_NOT_NOW,
            "int triage(int, int, int)" + NO_SUCH_OR_BAD_VALUE,
            "int close(int)" + NO_SUCH_OR_NOT_NOW,
            "int enqueue(int)" + NO_SUCH_OR_NOT_NOW,
            "int newDay(int)" + BAD_VALUE,
            "int take() throws IllegalStateException",
            "int commits()",
            "int tests()",
            "int budget()",
            "int queued()",
            "int partsOf(int)" + NO_SUCH,
            "int touches(int)" + NO_SUCH,
            "int runs(int)" + NO_SUCH,
            "int verdict(int, int)" + NO_SUCH,
            "int failing(int)" + NO_SUCH,
            "boolean isQuarantined(int)" + NO_SUCH,
            "int broken(int)" + NO_SUCH,
            "long suspects(int)" + NO_SUCH_OR_NOT_NOW,
            "int contradictions(int, int)" + NO_SUCH_OR_NOT_NOW,
            "long candidates(int)" + NO_SUCH_OR_NOT_NOW,
            "int likeliest(int)" + NO_SUCH_OR_NOT_NOW,
            "int next(int)" + NO_SUCH_OR_NOT_NOW);

    private static final Check check = new Check();

    public static void main(String[] args) {
        Class<FlakeTriage> made = FlakeTriage.class;
        check.due("the class's modifiers", Modifier.toString(made.getModifiers()), "public final");
        check.due("the class above it", made.getSuperclass().getName(), "java.lang.Object");
        check.due("its constructors", Arrays.toString(made.getDeclaredConstructors()), "[public FlakeTriage()]");
        methods(made);
        for (Field field : made.getDeclaredFields()) {
            check.due(field + " is private", Modifier.isPrivate(field.getModifiers()), true);
            boolean steady = !Modifier.isStatic(field.getModifiers()) || Modifier.isFinal(field.getModifiers());
            check.due(field + " is final if static", steady, true);
        }
        for (Class<?> inside : made.getDeclaredClasses()) {
            int seen = inside.getModifiers() & (Modifier.PUBLIC | Modifier.PROTECTED);
            check.due(inside + " is not to be seen", seen, 0);
            check.due(inside + " is static", Modifier.isStatic(inside.getModifiers()), true);
        }
        check.end();
    }

    private static void methods(Class<?> made) {
        Set<String> seen = new TreeSet<>();
        Set<String> seenNames = new TreeSet<>();
        for (Method method : made.getDeclaredMethods()) {
            if (!Modifier.isPrivate(method.getModifiers())) {
                seen.add(faceOf(method));
                seenNames.add(method.getName());
            }
        }
        check.due("the methods to be seen", seen.toString(), new TreeSet<>(FACE).toString());
        for (Method method : made.getDeclaredMethods()) {
            if (Modifier.isPrivate(method.getModifiers())) {
                check.due(method.getName() + " has a public one's name", seenNames.contains(method.getName()), false);
            }
        }
    }

    private static String faceOf(Method method) {
        String thrown = namesOf(method.getExceptionTypes());
        return method.getReturnType().getSimpleName() + " " + method.getName()
                + "(" + namesOf(method.getParameterTypes()) + ")" + (thrown.isEmpty() ? "" : " throws " + thrown);
    }

    private static String namesOf(Class<?>[] types) {
        return Arrays.stream(types).map(Class::getSimpleName).collect(Collectors.joining(", "));
    }
}
