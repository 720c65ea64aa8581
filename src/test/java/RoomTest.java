import java.lang.reflect.Array;
import java.lang.reflect.Field;
import java.lang.reflect.Modifier;
import java.util.ArrayDeque;
import java.util.Collections;
import java.util.Deque;
import java.util.IdentityHashMap;
import java.util.Set;

/** All calls of a run live in one room: what an object holds, and what its calls make, is counted. */
public final class RoomTest {
    private static final int MOST_OBJECTS = 300;
    private static final int MOST_ELEMENTS = 100000;
    private static final long MOST_BYTES = 500000;

    public static void main(String[] args) throws IllegalAccessException {
        for (int warm = 0; warm < 3; warm++) {
            fullRun(new BalloonHouse());
        }
        long before = bytesMade();
        BalloonHouse house = new BalloonHouse();
        fullRun(house);
        long made = bytesMade() - before;
        Check.same("bytes made by a full run: " + made, "" + (made < MOST_BYTES), "true");
        held(house);
        Check.end();
    }

    /** Not each Java machine counts them: 0 where it does not. */
    private static long bytesMade() {
        try {
            Object bean = Class.forName("java.lang.management.ManagementFactory").getMethod("getThreadMXBean").invoke(null);
            return (long) Class.forName("com.sun.management.ThreadMXBean").getMethod("getThreadAllocatedBytes", long.class)
                .invoke(bean, Thread.currentThread().getId());
        } catch (ReflectiveOperationException e) {
            return 0;
        }
    }

    /** Within 512 calls: all that may be kept, then the calls that do most. */
    private static void fullRun(BalloonHouse h) {
        for (int i = 0; i < 6; i++) {
            h.balloon(1000, 10);
        }
        for (int i = 0; i < 10; i++) {
            h.cylinder(1000, 100, i);
            h.zone(0, 575, 6, 0, 1000, 1);
        }
        for (int i = 0; i < 110; i++) {
            h.forecast(1 + i % 6, i % 4, 0, 1000, i % 7 - 3, i % 5 - 2);
        }
        for (int i = 0; i < 96; i++) {
            h.wind(1 + i % 6, i / 6 % 4, i / 24 * 100, 200, (i * 5 + i / 24) % 7 - 3, (i * 3 + i / 24) % 7 - 3);
        }
        for (int i = 0; i < 6; i++) {
            h.fill(i, 1000, 100);
            h.set(i, 0, 40);
            h.start(i, 12, 12);
        }
        for (int i = 0; i < 30; i++) {
            h.log(9000 - i * 10, 500);
        }
        h.sight(0, 12, 12);
        h.sight(40, 12, 12);
        for (int i = 0; i < 20; i++) {
            h.wind(1 + i % 6, i % 4, 1, 1, 0, 0);
            h.ways();
            h.way(i);
            h.plan(i % 6, 6, i, i, -1);
            h.leaks(1);
            h.fillable(4000, 50, 1);
            h.feed(0x64726f70, 0x2031303b, 0x20202020, 0x20202020, 0x20202020);
            h.orders(i % 6, 20);
            h.hours(5);
            h.ranked(1000, 0);
        }
    }

    private static void held(BalloonHouse house) throws IllegalAccessException {
        Set<Object> seen = Collections.newSetFromMap(new IdentityHashMap<>());
        Deque<Object> open = new ArrayDeque<>();
        open.add(house);
        long elements = 0;
        while (!open.isEmpty()) {
            Object one = open.poll();
            if (!seen.add(one)) {
                continue;
            }
            if (one.getClass().isArray()) {
                elements += Array.getLength(one);
                for (int i = 0; i < Array.getLength(one) && !one.getClass().getComponentType().isPrimitive(); i++) {
                    addTo(open, Array.get(one, i));
                }
                continue;
            }
            for (Field f : one.getClass().getDeclaredFields()) {
                if (!Modifier.isStatic(f.getModifiers())) {
                    elements++;
                    f.setAccessible(true);
                    addTo(open, f.getType().isPrimitive() ? null : f.get(one));
                }
            }
        }
        Check.same("objects: " + seen.size(), "" + (seen.size() < MOST_OBJECTS), "true");
        Check.same("elements: " + elements, "" + (elements < MOST_ELEMENTS), "true");
    }

    private static void addTo(Deque<Object> open, Object one) {
        if (one != null) {
            open.add(one);
        }
    }
}
