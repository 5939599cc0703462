import java.lang.reflect.Array;
import java.lang.reflect.Field;
import java.lang.reflect.Modifier;

/** Even if each call of a run made an object of the class, there would be room for them all. */
final class RoomTest {
    private static final int CALLS = 512;
    private static final int ROOM_OF_OBJECTS = 600_000;
    private static final int ROOM_OF_ELEMENTS = 7_300_000;

    private int objects = 0;
    private int elements = 0;

    private RoomTest() {
    }

    public static void main(String[] args) throws IllegalAccessException {
        Check check = new Check();
        RoomTest count = new RoomTest();
        count.add(new FlakeTriage());
        check.due("objects of " + CALLS + " new ones fit", count.objects * CALLS <= ROOM_OF_OBJECTS, true);
        check.due("elements of " + CALLS + " new ones fit", count.elements * CALLS <= ROOM_OF_ELEMENTS, true);
        check.due("whether rows were counted", count.objects > 1 && count.elements > 1, true);
        check.end();
    }

    /** Adds an object or an array, and all that it holds; nothing in the class is held twice. */
    private void add(Object one) throws IllegalAccessException {
        objects++;
        if (one.getClass().isArray()) {
            addElements(one);
            return;
        }
        for (Field field : one.getClass().getDeclaredFields()) {
            if (!Modifier.isStatic(field.getModifiers())) {
                elements++;
                field.setAccessible(true);
                if (!field.getType().isPrimitive()) {
                    add(field.get(one));
                }
            }
        }
    }

    private void addElements(Object array) throws IllegalAccessException {
        elements += Array.getLength(array);
        if (array instanceof Object[] rows) {
            for (Object row : rows) {
                add(row);
            }
        }
    }
}
