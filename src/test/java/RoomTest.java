import com.sun.management.ThreadMXBean;
import java.lang.management.ManagementFactory;
import java.lang.reflect.Array;
import java.lang.reflect.Field;
import java.lang.reflect.Modifier;
import java.util.ArrayDeque;
import java.util.Collections;
import java.util.Deque;
import java.util.IdentityHashMap;
import java.util.Set;

/** All calls of a run live in one room: an object takes a small part of it, and its calls nearly nothing more. */
public final class RoomTest {
    private static final Check check = new Check("RoomTest");
    private static final int MOST_OBJECTS = 600_000, MOST_ELEMENTS = 7_300_000;
    /** So many objects must fit at least: one of them has at most 512 calls. */
    private static final int RUNS = 100;
    private static final int CALLS = 500;
    private static final long MOST_BYTES_OF_CALLS = 100_000;

    private final Set<Object> seen = Collections.newSetFromMap(new IdentityHashMap<>());
    private final Deque<Object> left = new ArrayDeque<>();
    private long elements = 0;

    public static void main(String[] args) throws IllegalAccessException {
        PloughDepot depot = new PloughDepot();
        RoomTest first = new RoomTest();
        first.walk(depot);
        check.holds("objects of a new depot: " + first.seen.size(), (long) RUNS * first.seen.size() < MOST_OBJECTS);
        check.holds("fields and elements of a new depot: " + first.elements, RUNS * first.elements < MOST_ELEMENTS);

        ThreadMXBean threads = (ThreadMXBean) ManagementFactory.getThreadMXBean();
        long thread = Thread.currentThread().getId();
        long before = threads.getThreadAllocatedBytes(thread);
        dearCalls(depot);
        long bytes = threads.getThreadAllocatedBytes(thread) - before;
        check.holds("bytes that " + CALLS + " calls make: " + bytes, bytes < MOST_BYTES_OF_CALLS);

        RoomTest last = new RoomTest();
        last.walk(depot);
        check.holds("objects that calls leave: " + first.seen.size() + " to " + last.seen.size(), last.seen.size() <= first.seen.size() + 12);
        check.end();
    }

    private static void dearCalls(PloughDepot depot) {
        for (int i = 0; i < 3; i++) depot.crossings(20);
        for (int i = 0; i < 150; i++) depot.street(i % 60, (i * 7 + 1 + i / 60) % 60, 1 + i * 37 % 900, false);
        for (int i = 0; i < 20; i++) depot.gauge(i, i % 2 == 0);
        for (int i = 0; i < 20; i++) depot.row(i, 200);
        for (int i = 0; i < 12; i++) depot.plough(i % 4, 10000);
        int calls = 3 + 150 + 20 + 20 + 12;
        for (int i = 0; calls < CALLS; i++, calls += 13) {
            depot.sides(i % 150, i % 3);
            depot.reading(i % 20, i % 200, 100 + i);
            depot.snow(i % 200);
            depot.copies(0, 1, 199);
            depot.oneWay(149, i % 3 == 0);
            depot.round();
            depot.split();
            depot.go(i % 12, 50);
            depot.text();
            depot.digest();
            depot.least(0);
            depot.pair(i % 12, (i + 1) % 12, 100);
            depot.undo();
        }
    }

    /** Counts what can be come to from an object: each object and array, its fields and elements. */
    private void walk(Object start) throws IllegalAccessException {
        left.add(start);
        seen.add(start);
        while (!left.isEmpty()) {
            Object at = left.remove();
            if (at.getClass().isArray()) {
                walkArray(at);
            } else {
                walkFields(at);
            }
        }
    }

    private void walkArray(Object array) {
        int length = Array.getLength(array);
        elements += length;
        for (int i = 0; i < length && !array.getClass().getComponentType().isPrimitive(); i++) {
            come(Array.get(array, i));
        }
    }

    private void walkFields(Object object) throws IllegalAccessException {
        for (Class<?> c = object.getClass(); c != Object.class; c = c.getSuperclass()) {
            for (Field f : c.getDeclaredFields()) {
                if (Modifier.isStatic(f.getModifiers())) continue;
                elements++;
                f.setAccessible(true);
                if (!f.getType().isPrimitive()) come(f.get(object));
            }
        }
    }

    private void come(Object other) {
        if (other != null && seen.add(other)) left.add(other);
    }
}
