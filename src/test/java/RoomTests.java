import java.lang.management.ManagementFactory;
import java.lang.reflect.Array;
import java.lang.reflect.Field;
import java.lang.reflect.Modifier;
import java.util.ArrayDeque;
import java.util.Collections;
import java.util.IdentityHashMap;
import java.util.Set;

/** All calls of one run live in one room: what a new object holds, and what its dearest calls make. */
final class RoomTests {
    private static final com.sun.management.ThreadMXBean BYTES =
        (com.sun.management.ThreadMXBean) ManagementFactory.getThreadMXBean();

    /** The machine's own count may be off by a little; an object for each minute or ITEM is far above that. */
    private static final long ONE_OBJECT = 128;

    private RoomTests() { }

    static void run() {
        newObject();
        calls();
    }

    private static void newObject() {
        Set<Object> met = Collections.newSetFromMap(new IdentityHashMap<>());
        ArrayDeque<Object> open = new ArrayDeque<>();
        open.add(new Newsfold());
        long elements = 0;
        while (!open.isEmpty()) {
            Object o = open.poll();
            if (!met.add(o)) {
                continue;
            }
            if (o.getClass().isArray()) {
                elements += Array.getLength(o);
                for (int i = 0; !o.getClass().getComponentType().isPrimitive() && i < Array.getLength(o); i++) {
                    open.add(Array.get(o, i));
                }
            } else if (o.getClass().getName().startsWith("Newsfold")) {
                for (Field f : o.getClass().getDeclaredFields()) {
                    elements += Modifier.isStatic(f.getModifiers()) ? 0 : 1;
                    if (!f.getType().isPrimitive() && !Modifier.isStatic(f.getModifiers())) {
                        open.add(valueOf(f, o));
                    }
                }
            } else {
                elements += 20;
            }
        }
        Check.is("a new object holds few objects: " + met.size(), met.size() < 400, true);
        Check.is("a new object holds few elements: " + elements, elements < 9000, true);
    }

    private static Object valueOf(Field f, Object o) {
        try {
            f.setAccessible(true);
            return f.get(o);
        } catch (IllegalAccessException e) {
            throw new IllegalStateException(e);
        }
    }

    private static Newsfold full() {
        Newsfold x = new Newsfold();
        for (int f = 0; f < 4; f++) {
            x.feed(f % 2);
            for (int i = 0; i < 11; i++) {
                x.write(f, f * 10 + i, i, (f * 10 + i) % 64, (f * 10 + i + 1) % 64, (f * 10 + i + 2) % 64);
            }
        }
        for (int k = 0; k < 6; k++) {
            x.rule(k % 5, 1, k);
            x.ask(k % 3, k, 1, k > 3);
        }
        x.tick(600);
        for (int d = 0; d < 3; d++) {
            x.upTo(d, d);
            x.send(d, (d + 1) % 3);
        }
        return x;
    }

    private static void calls() {
        Newsfold x = full();
        long sum = x.digest();
        Check.is("a full object has many ITEMS", x.house(1) > 25, true);
        Check.is("digest() makes nothing", bytes(() -> x.digest() == sum) < ONE_OBJECT, true);
        Check.is("isSound() makes nothing", bytes(x::isSound) < ONE_OBJECT, true);
        Check.is("tick() makes nothing while nothing new comes", bytes(() -> x.tick(600) > 0) < ONE_OBJECT, true);
        Check.is("fetch() makes nothing without news", bytes(() -> x.fetch(0) == 0) < ONE_OBJECT, true);
        Check.is("upTo() and undo() make nothing", bytes(() -> x.upTo(0, 0) + x.undo(0) >= 0) < ONE_OBJECT, true);
        Check.is("send() and arrive() make nothing", bytes(() -> x.send(0, 1) + x.arrive(0, false) >= 0) < ONE_OBJECT, true);
        Check.is("list() makes one text", bytes(() -> x.list(0, 0).length() > 80) < 1500, true);
    }

    interface Asked {
        boolean isSo();
    }

    private static long bytes(Asked call) {
        Check.is("what is asked for", call.isSo(), true);
        long before = BYTES.getCurrentThreadAllocatedBytes();
        boolean isSo = call.isSo();
        long after = BYTES.getCurrentThreadAllocatedBytes();
        Check.is("what is asked for again", isSo, true);
        return after - before;
    }
}
