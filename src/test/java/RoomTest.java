import com.sun.management.ThreadMXBean;
import java.lang.management.ManagementFactory;
import java.lang.reflect.Array;
import java.lang.reflect.Field;
import java.lang.reflect.Modifier;
import java.util.ArrayDeque;
import java.util.ArrayList;
import java.util.Collections;
import java.util.Deque;
import java.util.IdentityHashMap;
import java.util.List;
import java.util.Set;

/** The Terms' "All memory is the desk's own, made once", and that a desk stays small. */
public final class RoomTest {
    /** As README.md says; 512 desks of this size fit in a room of 7.3 million fields and elements. */
    private static final long MOST_ELEMENTS = 9_999;
    private static final Due due = new Due();

    public static void main(String[] args) throws IllegalAccessException {
        aDeskIsSmall();
        itsMemoryIsMadeOnce();
        itsMemoryIsItsOwn();
        callsMakeNothing();
        due.end();
    }

    private static void aDeskIsSmall() throws IllegalAccessException {
        due.says("The room: a desk of the largest picture is small");
        long elements = 0;
        for (Object part : partsOf(new TileDesk(48, 48))) {
            elements += part.getClass().isArray() ? Array.getLength(part) : fieldsOf(part).size();
        }
        due.is(elements + " fields and elements are few", elements <= MOST_ELEMENTS, true);
    }

    private static void itsMemoryIsMadeOnce() throws IllegalAccessException {
        due.says("Terms: all memory is made once");
        TileDesk desk = new TileDesk(48, 48);
        Set<Object> atFirst = partsOf(desk);
        useEveryCall(desk);
        Set<Object> later = partsOf(desk);
        due.is("parts after many calls", later.size(), atFirst.size());
        due.is("the parts are those of the beginning", atFirst.containsAll(later), true);
    }

    private static void itsMemoryIsItsOwn() throws IllegalAccessException {
        due.says("Terms: all memory is the desk's own");
        Set<Object> ones = partsOf(new TileDesk(48, 48));
        Set<Object> others = partsOf(new TileDesk(48, 48));
        due.is("two desks share nothing", Collections.disjoint(ones, others), true);
    }

    /** What is made and dropped again counts too; a first desk is used so that all code is loaded. */
    private static void callsMakeNothing() {
        due.says("Terms: all memory is made once (no call makes an object)");
        ThreadMXBean meter = (ThreadMXBean) ManagementFactory.getThreadMXBean();
        if (!meter.isThreadAllocatedMemorySupported() || !meter.isThreadAllocatedMemoryEnabled()) {
            System.out.println("this machine does not tell what a call makes");
            return;
        }
        meter.getCurrentThreadAllocatedBytes();
        useEveryCall(new TileDesk(48, 48));
        TileDesk desk = new TileDesk(48, 48);
        long before = meter.getCurrentThreadAllocatedBytes();
        useEveryCall(desk);
        long made = meter.getCurrentThreadAllocatedBytes() - before;
        due.is("bytes that calls made", made, 0);
    }

    /** Makes no object itself. */
    private static void useEveryCall(TileDesk desk) {
        for (int round = 0; round < 3; round++) {
            desk.corner(0, -1000, -1000, 100, 65536);
            desk.corner(1, 4000, -1000, 200, 3000);
            desk.corner(2, -1000, 4000, 300, 20000);
            desk.corner(3, 0, 0, 0, 0);
            for (int n = 0; n < 30; n++) {
                desk.add(n, 255 - n);
            }
            desk.add(-1, 256);
            desk.background(round);
            desk.background(-1);
            Desks.beginAndDrawAll(desk);
            desk.tile(36);
            desk.pixel(1, 1);
            desk.pixel(-1, 48);
            desk.nearness(1, 1);
            desk.nearness(-1, 48);
            desk.count(round);
            desk.count(-1);
            desk.clear();
        }
    }

    private static List<Field> fieldsOf(Object part) {
        List<Field> fields = new ArrayList<>();
        for (Field field : part.getClass().getDeclaredFields()) {
            if (!Modifier.isStatic(field.getModifiers())) {
                fields.add(field);
            }
        }
        return fields;
    }

    /** The desk and every object and array that it holds, told apart by identity. */
    private static Set<Object> partsOf(TileDesk desk) throws IllegalAccessException {
        Set<Object> seen = Collections.newSetFromMap(new IdentityHashMap<>());
        Deque<Object> open = new ArrayDeque<>();
        open.add(desk);
        while (!open.isEmpty()) {
            Object part = open.remove();
            if (!seen.add(part) || part.getClass().isArray()) {
                continue;
            }
            for (Field field : fieldsOf(part)) {
                field.setAccessible(true);
                if (!field.getType().isPrimitive()) {
                    open.add(field.get(part));
                }
            }
        }
        return seen;
    }
}
