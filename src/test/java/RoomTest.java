import java.lang.reflect.Array;
import java.lang.reflect.Field;
import java.lang.reflect.Modifier;
import java.util.ArrayDeque;
import java.util.Collections;
import java.util.Deque;
import java.util.IdentityHashMap;
import java.util.Set;

/** The Terms' "All memory is the desk's own, made once", and that a desk stays small. */
public final class RoomTest {
    /** 512 desks of this size still fit in a room of 7.3 million fields and elements. */
    private static final long MOST_ELEMENTS = 7_300_000 / 513;
    private static final Due due = new Due();

    public static void main(String[] args) throws IllegalAccessException {
        TileDesk desk = new TileDesk(48, 48);
        Set<Object> atFirst = partsOf(desk);
        long elements = 0;
        for (Object part : atFirst) {
            elements += part.getClass().isArray() ? Array.getLength(part) : part.getClass().getDeclaredFields().length;
        }
        due.is("a desk of " + elements + " fields and elements is small", elements <= MOST_ELEMENTS, true);

        useEveryCall(desk);
        Set<Object> later = partsOf(desk);
        due.is("parts after many calls", later.size(), atFirst.size());
        due.is("the parts are those of the beginning", atFirst.containsAll(later), true);

        Set<Object> others = partsOf(new TileDesk(48, 48));
        due.is("two desks share nothing", Collections.disjoint(atFirst, others), true);
        due.end();
    }

    private static void useEveryCall(TileDesk desk) {
        for (int round = 0; round < 3; round++) {
            Desks.wideText(desk, 100, Desks.LIT);
            for (int n = 0; n < 30; n++) {
                desk.add(n, 255 - n);
            }
            desk.background(round);
            Desks.beginAndDrawAll(desk);
            desk.pixel(1, 1);
            desk.nearness(1, 1);
            desk.count(round);
            desk.clear();
        }
    }

    /** The desk and every object and array that it holds, told apart by identity. */
    private static Set<Object> partsOf(TileDesk desk) throws IllegalAccessException {
        Set<Object> seen = Collections.newSetFromMap(new IdentityHashMap<>());
        Deque<Object> open = new ArrayDeque<>();
        open.add(desk);
        while (!open.isEmpty()) {
            Object part = open.remove();
            if (!seen.add(part) || part.getClass().isArray()) {
                continue;
            }
            for (Field field : part.getClass().getDeclaredFields()) {
                field.setAccessible(true);
                if (!Modifier.isStatic(field.getModifiers()) && !field.getType().isPrimitive()) {
                    open.add(field.get(part));
                }
            }
        }
        return seen;
    }
}
