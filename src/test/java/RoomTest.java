import java.lang.management.ManagementFactory;
import java.lang.reflect.Array;
import java.lang.reflect.Field;
import java.lang.reflect.Modifier;
import java.util.IdentityHashMap;
import java.util.Map;

/** All calls of a run live in one room: an object is made small, and calls make nothing. */
public final class RoomTest {
    private static final Check CHECK = new Check("RoomTest");
    private static final Map<Object, Object> SEEN = new IdentityHashMap<>();
    private static long cells;

    public static void main(String[] args) throws IllegalAccessException {
        walk(new BusBridge());
        System.out.println("RoomTest: an object is " + SEEN.size() + " objects with " + cells + " fields and elements");
        CHECK.due("at most 600 objects", SEEN.size() > 600, false);
        CHECK.due("at most 30000 fields and elements", cells > 30000, false);
        callsMakeNothing();
        CHECK.end();
    }

    private static void walk(Object object) throws IllegalAccessException {
        if (object == null || SEEN.put(object, object) != null) {
            return;
        }
        if (object.getClass().isArray()) {
            cells += Array.getLength(object);
            if (!object.getClass().getComponentType().isPrimitive()) {
                for (int i = 0; i < Array.getLength(object); i++) {
                    walk(Array.get(object, i));
                }
            }
            return;
        }
        for (Field field : object.getClass().getDeclaredFields()) {
            if (!Modifier.isStatic(field.getModifiers())) {
                cells++;
                field.setAccessible(true);
                if (!field.getType().isPrimitive()) {
                    walk(field.get(object));
                }
            }
        }
    }

    private static void callsMakeNothing() {
        BusBridge x = new BusBridge();
        com.sun.management.ThreadMXBean bean = (com.sun.management.ThreadMXBean) ManagementFactory.getThreadMXBean();
        long thread = Thread.currentThread().getId();
        useAll(x);
        long before = bean.getThreadAllocatedBytes(thread);
        long empty = bean.getThreadAllocatedBytes(thread) - before;
        before = bean.getThreadAllocatedBytes(thread);
        useAll(x);
        long made = bean.getThreadAllocatedBytes(thread) - before - empty;
        CHECK.due("bytes that calls made", made, 0);
    }

    private static int useAll(BusBridge x) {
        // "latency 1 (2)+3*4; "
        int sum = x.append(0x6c617465, 0x6e637920, 0x31202832, 0x292b332a, 0x343b2020) + x.parse(20) + x.errorPosition();
        sum += x.append(0x6f6f7073, 0, 0, 0, 0) + x.parse(4);
        sum += x.read(0, 0, 4, false) + x.post(0, 0, 4, 1, true) + x.configure(1, 0, 1, false) + x.run(2);
        sum += x.waiting(0) + x.next(0) + x.held(0, 0) + x.word(0, 0) + x.ticksToRest() + x.completeTick(0, 0) + x.tick();
        sum += x.run(60) + x.tagState(0, 0) + x.stored(0, 0) + x.data(0, 0, 0) + x.ratioBits() + x.forwarded(0) + x.passings(0);
        sum += x.post(0, 0, 1, 1, false) + x.kindAt(0, 0) + x.tagAt(0, 0) + x.blockers(0, 0) + x.release(0, 0) + x.undo();
        boolean any = x.isSafe() | x.isStuck() | x.mayPass(0, 1, true) | x.holds(0, 1) | x.saveSnapshot(0);
        double all = x.utilisation(0) + x.averageWait(0);
        return sum + x.restoreSnapshot(0) + (any ? 1 : 0) + (int) all;
    }
}
