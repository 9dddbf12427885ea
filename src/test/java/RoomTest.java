import java.lang.management.ManagementFactory;
import java.lang.reflect.Array;
import java.lang.reflect.Field;
import java.lang.reflect.Modifier;
import java.util.IdentityHashMap;
import java.util.Map;

/** All calls live in one room: what an object keeps is counted, and calls that make nothing are held to that. */
public final class RoomTest {
    /** The room of a run: objects and arrays, fields and elements. */
    private static final long MOST_OBJECTS = 600000;
    private static final long MOST_ELEMENTS = 7300000;
    private static final int CALLS = 512;
    private static final int HOSTS = 6;
    private static final int THINGS = 8;
    /** Bytes that the measuring itself may make; here it is seen to make none. */
    private static final long LITTLE = 256;

    private final Checks checks = new Checks();

    public static void main(String[] args) throws IllegalAccessException {
        RoomTest test = new RoomTest();
        test.kept();
        test.madeByCalls();
        test.checks.end();
    }

    /** A run that does nothing but make objects, and one that fills an object, stay within the room. */
    private void kept() throws IllegalAccessException {
        checks.part("what is kept");
        Map<Object, Long> fresh = new IdentityHashMap<>();
        count(new CopyPlacer(), fresh);
        checks.due(CALLS + " times " + fresh.size() + " objects", CALLS * fresh.size() < MOST_OBJECTS, true);
        checks.due(CALLS + " times " + sum(fresh) + " elements", CALLS * sum(fresh) < MOST_ELEMENTS, true);
        Map<Object, Long> full = new IdentityHashMap<>();
        CopyPlacer x = filled();
        use(x);
        count(x, full);
        checks.due(full.size() + " objects in a full one", full.size() < 200, true);
        checks.due(sum(full) + " elements in a full one", sum(full) < 15000, true);
    }

    private static long sum(Map<Object, Long> counted) {
        long sum = 0;
        for (long n : counted.values()) {
            sum += n;
        }
        return sum;
    }

    /** The fields of an object, the elements of an array, and of all that they hold. */
    private static void count(Object o, Map<Object, Long> counted) throws IllegalAccessException {
        if (o == null || counted.containsKey(o)) {
            return;
        }
        if (o.getClass().isArray()) {
            int length = Array.getLength(o);
            counted.put(o, (long) length);
            for (int i = 0; i < length && !o.getClass().getComponentType().isPrimitive(); i++) {
                count(Array.get(o, i), counted);
            }
            return;
        }
        long fields = 0;
        counted.put(o, fields);
        for (Field f : o.getClass().getDeclaredFields()) {
            if (!Modifier.isStatic(f.getModifiers())) {
                fields++;
                f.setAccessible(true);
                if (!f.getType().isPrimitive()) {
                    count(f.get(o), counted);
                }
            }
        }
        counted.put(o, fields);
    }

    private static CopyPlacer filled() {
        CopyPlacer x = new CopyPlacer();
        for (int h = 0; h < HOSTS; h++) {
            x.host(60, h % 4);
            for (int b = 0; b < h; b++) {
                x.line(b, h, 1 + b + h);
            }
        }
        for (int t = 0; t < THINGS; t++) {
            x.thing(1 + t, 1 + t % 3, t % HOSTS);
        }
        return x;
    }

    /** Some 450 calls of all sorts but thing, host and line, none of them refused with an exception. */
    private static long use(CopyPlacer x) {
        long sum = 0;
        for (int n = 0; n < 17; n++) {
            int h = n % HOSTS;
            int t = n % THINGS;
            int far = (n + 3) % HOSTS;
            sum += x.ask(h, t) + x.ask(far, t) + x.ask(far, t) + x.write(h, t) + x.tick(3) + x.nearest(h, t);
            sum += x.best(t) + x.bestAt(t, 0) + x.cost(t, 3) + x.about(t, 0) + x.coming(t, h, 0) + x.credit(h, t);
            sum += x.hostOf(h, 3) + x.hostOf(h, 4) + x.log(t, 0, 2) + x.count(4) + x.count(5) + x.price(h, far);
            sum += x.cut(h, far, true) ? 1 : 0;
            sum += x.ask(far, t) + x.write(far, t) + x.tick(1) + x.fall(h) + x.tick(2);
            sum += x.rise(h) && x.cut(h, far, false) && x.pin(t, h, n % 2 == 0) ? 1 : 0;
        }
        return sum;
    }

    private void madeByCalls() {
        checks.part("what calls make");
        if (!(ManagementFactory.getThreadMXBean() instanceof com.sun.management.ThreadMXBean)) {
            return;
        }
        com.sun.management.ThreadMXBean meter = (com.sun.management.ThreadMXBean) ManagementFactory.getThreadMXBean();
        if (!meter.isThreadAllocatedMemorySupported()) {
            return;
        }
        long thread = Thread.currentThread().getId();
        use(filled());
        CopyPlacer x = filled();
        meter.getThreadAllocatedBytes(thread);
        long before = meter.getThreadAllocatedBytes(thread);
        long sum = use(x);
        long made = meter.getThreadAllocatedBytes(thread) - before;
        checks.due("calls did something", sum > 0, true);
        checks.due("bytes made by calls: " + made, made < LITTLE, true);
    }
}
