import java.lang.reflect.Array;
import java.lang.reflect.Field;
import java.lang.reflect.Modifier;
import java.util.ArrayDeque;
import java.util.Collections;
import java.util.Deque;
import java.util.IdentityHashMap;
import java.util.Set;

/**
 * How much room an object takes, new and behind the dearest calls: what can be reached from it, and, as what was made
 * and let go counts too, that calls make nothing once its rows are there.
 */
public final class RoomTest extends Desk {
    private static int objects;
    private static int elements;

    public static void main(String[] args) throws Exception {
        fresh();
        used();
        usedAgain();
        nothingMade();
        close("RoomTest");
    }

    private static void fresh() throws Exception {
        by("a new object");
        count(new ShareWheel());
        due("at most 60 objects: " + objects, objects <= 60, true);
        due("at most 1300 fields and elements: " + elements, elements <= 1300, true);
    }

    private static ShareWheel dearest() {
        ShareWheel x = told(sixteen(16, "2"));
        see(x, 0, 0, 0);
        due("there are FITS", x.tells(0) >= 0, true);
        for (int i = 0; i < 20; i++) {
            weigh(x, i % 16, 1024 + i);
        }
        return x;
    }

    private static void used() throws Exception {
        by("an object behind 20 ACTS and tells()");
        count(dearest());
        due("at most 160 objects: " + objects, objects <= 160, true);
        due("at most 10000 fields and elements: " + elements, elements <= 10000, true);
    }

    private static void usedAgain() throws Exception {
        by("what was made is used again");
        ShareWheel x = dearest();
        count(x);
        int objectsAhead = objects;
        int elementsAhead = elements;
        for (int i = 0; i < 30; i++) {
            store(x, alike(9, 0x5A));
            x.pick(i % 3);
            x.chance(60, i % 3);
            x.tells(1);
            x.undo();
            x.image();
            x.longest(i % 3, 12, 0);
            x.pairs(12, 0, 1);
        }
        tell(x, text(3, "1", "2"));
        count(x);
        due("objects", objects, objectsAhead);
        due("fields and elements", elements, elementsAhead);
    }

    /** Face calls alone, whose arguments are numbers: a test's own tapes and texts would be counted too. */
    private static void nothingMade() {
        by("no call makes anything, once the rows are there");
        ShareWheel x = dearest();
        // OPEN is what a byte comes to by weights that have little in common.
        see(x, 0, 0, 255);
        due("there are FITS", x.tells(0) >= 0, true);
        long bytes = madeBy(x);
        due("at most 1000 bytes in 400 calls: " + bytes, bytes <= 1000, true);
    }

    private static long madeBy(ShareWheel x) {
        com.sun.management.ThreadMXBean made =
                (com.sun.management.ThreadMXBean) java.lang.management.ManagementFactory.getThreadMXBean();
        long thread = Thread.currentThread().getId();
        made.getThreadAllocatedBytes(thread);
        long ahead = made.getThreadAllocatedBytes(thread);
        for (int i = 0; i < 40; i++) {
            x.feed(i, i, i, i, i);
            x.store();
            x.pick(i % 3);
            x.set(i % 16, 0x40000000 + i * 0x1000, 0);
            x.merge(i % 17);
            x.tells(i % 2);
            x.chance(2, i % 3);
            x.undo();
            x.rows(i % 3, 12, 1);
            x.image();
        }
        return made.getThreadAllocatedBytes(thread) - ahead;
    }

    private static void count(ShareWheel x) throws Exception {
        objects = 0;
        elements = 0;
        Set<Object> met = Collections.newSetFromMap(new IdentityHashMap<>());
        Deque<Object> open = new ArrayDeque<>();
        meet(x, met, open);
        while (!open.isEmpty()) {
            Object next = open.pop();
            objects++;
            if (next.getClass().isArray()) {
                row(next, met, open);
            } else {
                fields(next, met, open);
            }
        }
    }

    private static void meet(Object found, Set<Object> met, Deque<Object> open) {
        if (found != null && met.add(found)) {
            open.push(found);
        }
    }

    private static void row(Object row, Set<Object> met, Deque<Object> open) {
        elements += Array.getLength(row);
        if (!row.getClass().getComponentType().isPrimitive()) {
            for (Object element : (Object[]) row) {
                meet(element, met, open);
            }
        }
    }

    private static void fields(Object object, Set<Object> met, Deque<Object> open) throws Exception {
        for (Class<?> c = object.getClass(); c != Object.class; c = c.getSuperclass()) {
            for (Field field : c.getDeclaredFields()) {
                if (!Modifier.isStatic(field.getModifiers())) {
                    elements++;
                    field.setAccessible(true);
                    if (!field.getType().isPrimitive()) {
                        meet(field.get(object), met, open);
                    }
                }
            }
        }
    }
}
