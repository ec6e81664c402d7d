import com.sun.management.ThreadMXBean;
import java.lang.management.ManagementFactory;
import java.lang.reflect.Array;
import java.lang.reflect.Field;
import java.lang.reflect.Modifier;
import java.util.ArrayDeque;
import java.util.Collections;
import java.util.Deque;
import java.util.IdentityHashMap;
import java.util.Set;

/** All calls of one run live in one room: an object is small, and its calls make nothing. */
final class RoomTest {
    private static final Due DUE = new Due("RoomTest");
    private static final int MOST_OBJECTS = 100, MOST_PARTS = 1000;
    private static final int TRIES = 20;

    private int objects = 0;
    private int parts = 0;

    public static void main(String[] args) throws IllegalAccessException {
        RoomTest room = new RoomTest();
        room.measure(Due.busy());
        DUE.holds(room.objects + " objects and arrays, at most " + MOST_OBJECTS, room.objects <= MOST_OBJECTS);
        DUE.holds(room.parts + " fields and elements, at most " + MOST_PARTS, room.parts <= MOST_PARTS);
        long made = leastMade();
        DUE.holds("calls make nothing, not " + made + " bytes", made == 0);
        DUE.end();
    }

    /** Goes from the object through all that it holds. */
    private void measure(Object whole) throws IllegalAccessException {
        Set<Object> seen = Collections.newSetFromMap(new IdentityHashMap<>());
        Deque<Object> open = new ArrayDeque<>();
        open.add(whole);
        while (!open.isEmpty()) {
            Object one = open.poll();
            if (seen.add(one)) {
                objects++;
                open.addAll(one.getClass().isArray() ? elements(one) : fields(one));
            }
        }
    }

    private Deque<Object> elements(Object array) {
        Deque<Object> held = new ArrayDeque<>();
        int length = Array.getLength(array);
        parts += length;
        for (int i = 0; i < length && !array.getClass().getComponentType().isPrimitive(); i++) {
            held.add(Array.get(array, i));
        }
        return held;
    }

    private Deque<Object> fields(Object one) throws IllegalAccessException {
        Deque<Object> held = new ArrayDeque<>();
        for (Class<?> type = one.getClass(); type != Object.class; type = type.getSuperclass()) {
            for (Field field : type.getDeclaredFields()) {
                if (Modifier.isStatic(field.getModifiers())) {
                    continue;
                }
                parts++;
                field.setAccessible(true);
                if (!field.getType().isPrimitive() && field.get(one) != null) {
                    held.add(field.get(one));
                }
            }
        }
        return held;
    }

    /** The machine may make something of its own when a call is first made, so the least of several tries counts. */
    private static long leastMade() {
        ThreadMXBean threads = (ThreadMXBean) ManagementFactory.getThreadMXBean();
        long least = Long.MAX_VALUE;
        for (int i = 0; i < TRIES; i++) {
            CowsOwed x = Due.busy();
            long before = threads.getCurrentThreadAllocatedBytes();
            everyCall(x);
            least = Math.min(least, threads.getCurrentThreadAllocatedBytes() - before);
        }
        return least;
    }

    private static void everyCall(CowsOwed x) {
        x.image();
        x.fault();
        x.clan(0, 6);
        x.as(1, 1);
        x.rate(9);
        x.wed(1, 0);
        x.wedding(0, 2);
        x.divorce(0);
        x.year();
        x.settled();
        x.plan(0, 1);
        x.order(0);
        x.high();
        x.tell(2, 3);
        x.which();
        x.ask();
        x.ages(40, 471, 0);
        x.count(2);
        x.digest();
        x.dream();
        x.forget();
        x.restore();
        x.blank();
        x.letter('c');
        x.letter('1');
        x.letter(',');
        x.letter('k');
        x.letter('1');
        x.letter(';');
        x.letter('1');
        x.hills();
    }
}
