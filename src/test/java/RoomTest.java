import java.lang.reflect.Array;
import java.lang.reflect.Field;
import java.lang.reflect.Modifier;
import java.util.ArrayDeque;
import java.util.Collections;
import java.util.Deque;
import java.util.IdentityHashMap;
import java.util.Set;

/** A desk takes little of the room that all calls of a run share, and no more of it after its last call. */
public final class RoomTest {
    private static final int OBJECTS = 1000;
    private static final int ELEMENTS = 20_000;

    private static final Due DUE = new Due("RoomTest");

    public static void main(String[] args) throws Exception {
        PolynomialBench desk = new PolynomialBench();
        Room empty = new Room(desk);
        DUE.is("at most " + OBJECTS + " objects: " + empty.objects, empty.objects <= OBJECTS, true);
        DUE.is("at most " + ELEMENTS + " elements: " + empty.elements, empty.elements <= ELEMENTS, true);
        use(desk);
        Room used = new Room(desk);
        DUE.same("objects after 512 calls", used.objects, empty.objects);
        DUE.same("elements after 512 calls", used.elements, empty.elements);
        DUE.end();
    }

    private static void use(PolynomialBench desk) {
        String nines = "9".repeat(30);
        Due.put(desk, 0, nines + "x^7-" + nines + "x^4+x-" + nines);
        Due.put(desk, 1, "-" + nines + "x^7+" + nines + "x^6-3x^2+" + nines);
        for (int x = 0; x < 8; x++) {
            desk.addPoint(x, x * x * x - 1_000_000);
        }
        for (int i = 0; i < 40; i++) {
            desk.errors(0, 1);
            desk.resultant(0, 1);
            desk.discriminant(0);
            desk.value(0, 999_999, 1000);
            desk.write(0);
            desk.gcd(0, 1, 2);
            desk.part(0, 7, 2);
            desk.box(0, 0, 8);
            desk.wholeRoots(0);
            desk.interpolate(3);
            desk.undo();
        }
    }

    /** What can be reached from an object: objects and rows, their fields and elements. */
    private static final class Room {
        private final Set<Object> seen = Collections.newSetFromMap(new IdentityHashMap<>());
        private final Deque<Object> open = new ArrayDeque<>();
        private int objects;
        private int elements;

        Room(Object from) throws Exception {
            meet(from);
            while (!open.isEmpty()) {
                Object next = open.remove();
                objects++;
                if (next.getClass().isArray()) {
                    walkRow(next);
                } else {
                    walkFields(next);
                }
            }
        }

        private void meet(Object object) {
            if (object != null && seen.add(object)) {
                open.add(object);
            }
        }

        private void walkRow(Object row) {
            elements += Array.getLength(row);
            for (int i = 0; i < Array.getLength(row) && !row.getClass().getComponentType().isPrimitive(); i++) {
                meet(Array.get(row, i));
            }
        }

        private void walkFields(Object object) throws Exception {
            for (Field field : object.getClass().getDeclaredFields()) {
                if (!Modifier.isStatic(field.getModifiers())) {
                    elements++;
                    field.setAccessible(true);
                    meet(field.getType().isPrimitive() ? null : field.get(object));
                }
            }
        }
    }
}
