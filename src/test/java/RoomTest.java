import com.sun.management.ThreadMXBean;
import java.lang.management.ManagementFactory;
import java.lang.reflect.Array;
import java.lang.reflect.Field;
import java.lang.reflect.Modifier;
import java.util.ArrayDeque;
import java.util.Collections;
import java.util.Deque;
import java.util.IdentityHashMap;
import java.util.Set;

/**
 * A run of calls has room for some 600,000 objects and 7.3 million fields and elements: a new object
 * takes little of it, and its calls take none.
 */
public final class RoomTest {
    private static final int MOST_OBJECTS = 1_000;
    private static final int MOST_CELLS = 10_000;
    /** What the machine itself may take in the time of the calls; one object a call would be more. */
    private static final long FEW_BYTES = 4_096;

    private int objects;
    private int cells;

    public static void main(String[] args) throws IllegalAccessException {
        RoomTest room = new RoomTest();
        room.take(new MercuryLine());
        Check.due("a new object is " + room.objects + " objects and arrays", room.objects <= MOST_OBJECTS);
        Check.due("a new object has " + room.cells + " fields and elements", room.cells <= MOST_CELLS);
        allCalls(Setup.inState(1));
        long bytes = allCalls(Setup.inState(1));
        Check.due("400 calls took " + bytes + " bytes", bytes <= FEW_BYTES);
        Check.end("RoomTest");
    }

    /** Counts an object and all that can be reached from it. */
    private void take(Object first) throws IllegalAccessException {
        Set<Object> seen = Collections.newSetFromMap(new IdentityHashMap<>());
        Deque<Object> open = new ArrayDeque<>();
        open.add(first);
        while (!open.isEmpty()) {
            Object one = open.remove();
            if (!seen.add(one)) {
                continue;
            }
            objects++;
            if (one.getClass().isArray()) {
                takeElements(one, open);
            } else {
                takeFields(one, open);
            }
        }
    }

    private void takeElements(Object array, Deque<Object> open) {
        for (int i = 0; i < Array.getLength(array); i++) {
            cells++;
            Object held = Array.get(array, i);
            if (held != null && !array.getClass().getComponentType().isPrimitive()) {
                open.add(held);
            }
        }
    }

    private void takeFields(Object one, Deque<Object> open) throws IllegalAccessException {
        for (Field field : one.getClass().getDeclaredFields()) {
            if (Modifier.isStatic(field.getModifiers())) {
                continue;
            }
            cells++;
            field.setAccessible(true);
            Object held = field.get(one);
            if (held != null && !field.getType().isPrimitive()) {
                open.add(held);
            }
        }
    }

    /** Each call of the face ten times or more, 400 in all; answers how many bytes they took. */
    private static long allCalls(MercuryLine x) {
        ThreadMXBean threads = (ThreadMXBean) ManagementFactory.getThreadMXBean();
        Setup.typed(x, "1,1,00>01*1");
        x.order(0, 3);
        long before = threads.getCurrentThreadAllocatedBytes();
        for (int time = 0; time < 10; time++) {
            acts(x, time);
            questions(x, time);
        }
        return threads.getCurrentThreadAllocatedBytes() - before;
    }

    private static void acts(MercuryLine x, int time) {
        x.build(1, 9 + time);
        x.addStation(1, 3 + time);
        x.setHeat(1, time);
        x.setFare(20 + time);
        x.setPatience(10 + time);
        x.book(1, 1, 0, 1, 1);
        x.cancel(time);
        x.call(0, time);
        x.callBack(0);
        x.order(0, 1 + time);
        x.endOrder(time);
        x.tick(2);
        x.drain(0);
        x.readTickets();
        x.clearText();
        x.type('1');
        x.keep();
        x.undo();
        x.restore();
    }

    private static void questions(MercuryLine x, int time) {
        for (int what = 0; what < 2; what++) {
            x.line(time % 2, what);
            x.slot(0, what);
            x.station(time % 2, what);
            x.waiting(0, what);
            x.calls(0, what);
            x.ticket(time, what);
            x.ordered(0, what);
            x.event(time, what);
        }
        x.count(time);
        x.price(1, 1);
        x.fate(time, 1);
        x.slotIn(0, 300);
        x.lapsNeeded(0, 1);
    }
}
