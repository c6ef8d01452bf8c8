import java.lang.management.ManagementFactory;
import java.lang.reflect.Array;
import java.lang.reflect.Field;
import java.lang.reflect.Modifier;
import java.util.ArrayDeque;
import java.util.Collections;
import java.util.Deque;
import java.util.IdentityHashMap;
import java.util.Set;

/** What a run makes: all of it is made by the constructor, and no call keeps or makes more, but for what it throws. */
public final class RoomTest {
    private static final int MOST_OBJECTS = 200;
    private static final int MOST_ELEMENTS = 3000;
    private static final int CALLS = 480;
    /** The bean that counts makes something itself, now and then. */
    private static final long MOST_BYTES = 4096;

    private static int elements;

    private RoomTest() {
    }

    public static void main(String[] args) {
        AuditgateReeve x = new AuditgateReeve();
        Set<Object> first = rowsOf(x);
        Check.is("objects and arrays of a new object: " + first.size(), first.size() <= MOST_OBJECTS, true);
        Check.is("their fields and elements: " + elements, elements <= MOST_ELEMENTS, true);
        fill(x);
        dearestCalls(x);
        Set<Object> last = rowsOf(x);
        Check.is("objects and arrays after its calls", last.size(), first.size());
        Check.is("none is another one", first.containsAll(last), true);
        madeByCalls();
        Check.end();
    }

    /** All that can be come to from an object, told apart by which object it is. */
    private static Set<Object> rowsOf(AuditgateReeve x) {
        Set<Object> found = Collections.newSetFromMap(new IdentityHashMap<>());
        Deque<Object> open = new ArrayDeque<>();
        elements = 0;
        open.push(x);
        while (!open.isEmpty()) {
            Object next = open.pop();
            if (found.add(next)) {
                putParts(next, open);
            }
        }
        return found;
    }

    private static void putParts(Object whole, Deque<Object> open) {
        if (whole.getClass().isArray()) {
            for (int i = 0; i < Array.getLength(whole); i++) {
                putPart(Array.get(whole, i), whole.getClass().getComponentType(), open);
            }
            return;
        }
        for (Field field : whole.getClass().getDeclaredFields()) {
            if (!Modifier.isStatic(field.getModifiers())) {
                try {
                    field.setAccessible(true);
                    putPart(field.get(whole), field.getType(), open);
                } catch (IllegalAccessException closed) {
                    Check.report(closed.toString());
                }
            }
        }
    }

    private static void putPart(Object part, Class<?> type, Deque<Object> open) {
        elements++;
        if (part != null && !type.isPrimitive()) {
            open.push(part);
        }
    }

    /** As many of all as there can be, and runs that lead everywhere. */
    private static void fill(AuditgateReeve x) {
        for (int i = 0; i < 12; i++) {
            x.thing(i - 1, i % 6, i % 6, 01777);
            x.type(i, i % 4);
        }
        for (int i = 0; i < 8; i++) {
            x.process(i % 6, i % 4, 0, 0, 0, 7);
        }
        for (int cell = 0; cell < 16; cell++) {
            x.rule(cell / 4, cell % 4, AuditgateReeve.RUN);
            x.move(cell / 4, cell % 4, (cell + 1) % 4);
        }
    }

    private static void dearestCalls(AuditgateReeve x) {
        for (int i = 0; i < CALLS / 8; i++) {
            x.reachAnew(i % 8, i % 12, AuditgateReeve.LOOK);
            x.reach(i % 8, i % 12, AuditgateReeve.LOOK);
            x.leastAnew(i % 6, i % 12, AuditgateReeve.RUN);
            x.least(i % 6, i % 12, AuditgateReeve.RUN);
            x.verdictAnew(i % 8, i % 12, AuditgateReeve.CHANGE);
            x.act(i % 8, i % 12, AuditgateReeve.RUN);
            x.broken();
            x.member(i % 6, false, i % 6, i % 2 == 0);
        }
    }

    private static void madeByCalls() {
        if (!(ManagementFactory.getThreadMXBean() instanceof com.sun.management.ThreadMXBean)) {
            return;
        }
        com.sun.management.ThreadMXBean bean = (com.sun.management.ThreadMXBean) ManagementFactory.getThreadMXBean();
        if (!bean.isThreadAllocatedMemorySupported() || !bean.isThreadAllocatedMemoryEnabled()) {
            return;
        }
        long least = Long.MAX_VALUE;
        for (int turn = 0; turn < 3; turn++) {
            AuditgateReeve x = new AuditgateReeve();
            fill(x);
            long before = bean.getCurrentThreadAllocatedBytes();
            dearestCalls(x);
            least = Math.min(least, bean.getCurrentThreadAllocatedBytes() - before);
        }
        Check.is("bytes made by " + CALLS + " calls: " + least, least <= MOST_BYTES, true);
    }
}
