import java.lang.reflect.Array;
import java.lang.reflect.Field;
import java.lang.reflect.Modifier;
import java.util.ArrayDeque;
import java.util.Collections;
import java.util.Deque;
import java.util.IdentityHashMap;
import java.util.Set;

/** How much of the room that all calls of one run share an object takes (rule 12 of LANGUAGE.md). */
public final class RoomTest {
    private static final int OBJECTS_IN_ROOM = 600000;
    private static final int ELEMENTS_IN_ROOM = 7300000;
    private static final int GUARDS_IN_ROOM = 100;

    private final Set<Object> seen = Collections.newSetFromMap(new IdentityHashMap<>());
    private final Deque<Object> waiting = new ArrayDeque<>();
    private long elements = 0;

    public static void main(String[] args) throws IllegalAccessException {
        RoomTest fresh = new RoomTest();
        fresh.count(new ZipGuard());
        ZipGuard used = Archive.load(new Archive().store("a", new byte[9000]).folder("b/").bytes());
        used.limits(40000, 2000);
        for (int k = 0; k < 10; k++) {
            used.open();
            used.takeAll();
            used.written(0, k);
        }
        RoomTest later = new RoomTest();
        later.count(used);
        Checks.due("objects fit", fresh.seen.size() <= OBJECTS_IN_ROOM / GUARDS_IN_ROOM ? 1 : 0, 1);
        Checks.due("elements fit", fresh.elements <= ELEMENTS_IN_ROOM / GUARDS_IN_ROOM ? 1 : 0, 1);
        Checks.due("objects behind calls", later.seen.size(), fresh.seen.size());
        Checks.due("elements behind calls", later.elements, fresh.elements);
        Checks.finish("RoomTest");
    }

    private void count(Object root) throws IllegalAccessException {
        meet(root);
        while (!waiting.isEmpty()) {
            Object object = waiting.pop();
            if (object.getClass().isArray()) {
                countElements(object);
            } else {
                countFields(object);
            }
        }
    }

    private void meet(Object object) {
        if (object != null && seen.add(object)) {
            waiting.push(object);
        }
    }

    private void countElements(Object row) {
        elements += Array.getLength(row);
        if (row instanceof Object[] objects) {
            for (Object object : objects) {
                meet(object);
            }
        }
    }

    private void countFields(Object object) throws IllegalAccessException {
        for (Field field : object.getClass().getDeclaredFields()) {
            if (!Modifier.isStatic(field.getModifiers())) {
                elements++;
                field.setAccessible(true);
                if (!field.getType().isPrimitive()) {
                    meet(field.get(object));
                }
            }
        }
    }
}
