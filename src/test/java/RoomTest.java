import com.sun.management.ThreadMXBean;
import java.lang.management.ManagementFactory;
import java.lang.reflect.Array;
import java.lang.reflect.Field;
import java.lang.reflect.Modifier;
import java.util.ArrayDeque;
import java.util.Collections;
import java.util.Deque;
import java.util.IdentityHashMap;
import java.util.Set;

/** All calls of a run live in one room: the constructor makes all, the calls make nothing. */
public final class RoomTest {
    private static final int MOST_ELEMENTS = 2000000;
    private static final int MOST_OBJECTS = 200;

    private long elements;
    private long objects;

    public static void main(String[] args) throws IllegalAccessException {
        Tally tally = new Tally("RoomTest");
        RunProver prover = Tally.reading(heavy());
        RoomTest room = new RoomTest();
        room.walk(prover);
        tally.due(room.elements + " elements are too many", 0, room.elements > MOST_ELEMENTS ? 1 : 0);
        tally.due(room.objects + " objects are too many", 0, room.objects > MOST_OBJECTS ? 1 : 0);
        ask(prover);
        ThreadMXBean bean = (ThreadMXBean) ManagementFactory.getThreadMXBean();
        long id = Thread.currentThread().getId();
        bean.getThreadAllocatedBytes(id);
        long before = bean.getThreadAllocatedBytes(id);
        ask(prover);
        long made = bean.getThreadAllocatedBytes(id) - before;
        Tally.give(prover, heavy());
        before = bean.getThreadAllocatedBytes(id);
        prover.read();
        made += bean.getThreadAllocatedBytes(id) - before;
        tally.due("bytes made by calls, but for the asking itself: " + made, 0, made > 2000 ? 1 : 0);
        RoomTest later = new RoomTest();
        later.walk(prover);
        tally.due("elements later", (int) room.elements, (int) later.elements);
        tally.close();
    }

    private static String heavy() {
        return "width 8; var a; var b; var q; any a : 6; any b : 6; a = a * 5; "
            + Tally.times("q = a / (b + 1); assert q * (b + 1) + a % (b + 1) == a; a = a + 37; ", 6);
    }

    private static void ask(RunProver prover) {
        prover.prove();
        for (int c = 0; c < prover.count(0); c++) {
            prover.breaks(c);
            prover.reaches(c);
        }
        prover.ends(0, 0, 3);
        prover.run();
        prover.value(1, 0);
        prover.put(0, prover.input(0));
    }

    private void walk(Object root) throws IllegalAccessException {
        Set<Object> met = Collections.newSetFromMap(new IdentityHashMap<>());
        Deque<Object> open = new ArrayDeque<>();
        open.add(root);
        met.add(root);
        while (!open.isEmpty()) {
            Object now = open.poll();
            objects++;
            if (now.getClass().isArray()) {
                elements += Array.getLength(now);
                continue;
            }
            for (Field field : now.getClass().getDeclaredFields()) {
                if (Modifier.isStatic(field.getModifiers())) {
                    continue;
                }
                elements++;
                field.setAccessible(true);
                Object held = field.get(now);
                if (held != null && !field.getType().isPrimitive() && met.add(held)) {
                    open.add(held);
                }
            }
        }
    }
}
