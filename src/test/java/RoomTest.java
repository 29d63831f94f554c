import java.lang.management.ManagementFactory;
import java.lang.reflect.Array;
import java.lang.reflect.Field;
import java.lang.reflect.Modifier;
import java.util.Collections;
import java.util.IdentityHashMap;
import java.util.Set;

/**
 * All calls of a run live in one room of 600,000 objects and arrays and 7.3 million fields and
 * elements: rows are made in the constructor and used again, and no later call makes any.
 */
public final class RoomTest {
    // So small that the room would be large enough even if each of 512 calls made a new object.
    private static final int MOST_OBJECTS = 600_000 / 513;
    private static final int MOST_ELEMENTS = 7_300_000 / 513;
    private static final int CALLS_OF_AN_OBJECT = 512;

    private static int faults = 0;

    private RoomTest() { }

    public static void main(String[] args) throws IllegalAccessException {
        ShardRing ring = new ShardRing(4, 16);
        Set<Object> before = reachedFrom(ring);
        int elements = elementsOf(before);
        check("an object's parts are few: " + before.size(), before.size() <= MOST_OBJECTS);
        check("its fields and elements are few: " + elements, elements <= MOST_ELEMENTS);
        useForAllCalls(ring);
        Set<Object> after = reachedFrom(ring);
        check("its parts are the same behind 512 calls", after.size() == before.size() && before.containsAll(after));
        check("calls make no objects", bytesOfCalls() == 0);
        System.out.println("RoomTest: " + before.size() + " objects and arrays, " + elements
            + " fields and elements, " + faults + " faults");
        if (faults != 0) {
            System.exit(1);
        }
    }

    private static void check(String what, boolean holds) {
        if (!holds) {
            faults++;
            System.out.println("does not hold: " + what);
        }
    }

    private static Set<Object> reachedFrom(Object object) throws IllegalAccessException {
        Set<Object> reached = Collections.newSetFromMap(new IdentityHashMap<>());
        reach(object, reached);
        return reached;
    }

    private static void reach(Object object, Set<Object> reached) throws IllegalAccessException {
        if (object == null || !reached.add(object)) {
            return;
        }
        if (object instanceof Object[] row) {
            for (Object each : row) {
                reach(each, reached);
            }
            return;
        }
        for (Field field : object.getClass().getDeclaredFields()) {
            if (!Modifier.isStatic(field.getModifiers()) && !field.getType().isPrimitive()) {
                field.setAccessible(true);
                reach(field.get(object), reached);
            }
        }
    }

    private static int elementsOf(Set<Object> objects) {
        int sum = 0;
        for (Object object : objects) {
            boolean isRow = object.getClass().isArray();
            sum += isRow ? Array.getLength(object) : object.getClass().getDeclaredFields().length;
        }
        return sum;
    }

    private static long bytesOfCalls() {
        useForAllCalls(new ShardRing(4, 16));
        ShardRing ring = new ShardRing(4, 16);
        com.sun.management.ThreadMXBean threads =
            (com.sun.management.ThreadMXBean) ManagementFactory.getThreadMXBean();
        threads.getThreadAllocatedBytes(Thread.currentThread().getId());
        long before = threads.getThreadAllocatedBytes(Thread.currentThread().getId());
        useForAllCalls(ring);
        return threads.getThreadAllocatedBytes(Thread.currentThread().getId()) - before;
    }

    // No call is refused, since an exception is an object too.
    private static void useForAllCalls(ShardRing ring) {
        for (int key = 0; key < 200; key++) {
            ring.put(key * 8191, key);
        }
        ring.join(5, 16);
        for (int i = 0; i < 30; i++) {
            ring.step();
            ring.put(i * 8191, -i);
            ring.remove((i + 40) * 8191);
        }
        ring.fail(0);
        ring.step();
        ring.recover();
        for (int call = 294; call < CALLS_OF_AN_OBJECT; call++) {
            useOnce(ring, call);
        }
    }

    private static void useOnce(ShardRing ring, int call) {
        switch (call % 15) {
            case 0: ring.off(); break;
            case 1: ring.place(call); break;
            case 2: ring.owner(call); break;
            case 3: ring.home(call); break;
            case 4: ring.state(0); break;
            case 5: ring.holds(5, call); break;
            case 6: ring.size(0); break;
            case 7: ring.put(0, call); break;
            case 8: ring.points(5); break;
            case 9: ring.count(call % 3); break;
            case 10: ring.written(true); break;
            case 11: ring.share(5); break;
            case 12: ring.get(0); break;
            case 13: ring.key(0, ring.size(0) - 1); break;
            default: ring.remove(call); break;
        }
    }
}
