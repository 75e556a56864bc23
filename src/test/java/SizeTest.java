import com.sun.management.ThreadMXBean;
import java.lang.management.ManagementFactory;
import java.lang.reflect.Array;
import java.lang.reflect.Field;
import java.lang.reflect.Modifier;
import java.util.ArrayDeque;
import java.util.Collections;
import java.util.Deque;
import java.util.IdentityHashMap;
import java.util.Set;

/** How many objects and arrays, and how many fields and elements, one RoadDust keeps: all calls live in one room. */
public final class SizeTest {
    private static final Check check = new Check();
    private static final int MOST_OBJECTS = 600;
    private static final int MOST_ELEMENTS = 4000;
    private static final int ROUNDS = 5;

    private int objects;
    private int elements;

    public static void main(String[] args) throws IllegalAccessException {
        RoadDust x = new RoadDust();
        SizeTest first = sizeOf(x);
        check.that("a new object keeps " + first, first.objects <= MOST_OBJECTS && first.elements <= MOST_ELEMENTS);
        use(x);
        SizeTest later = sizeOf(x);
        check.that("a new object keeps " + first + ", after its calls " + later,
            later.objects == first.objects && later.elements == first.elements);
        check.due("the bytes of objects that the calls make and do not keep", 0, SizeTest::leastMade);
        check.end();
    }

    /** The fewest bytes of some rounds: the machine itself may make something in one of them. */
    private static long leastMade() {
        ThreadMXBean threads = (ThreadMXBean) ManagementFactory.getThreadMXBean();
        RoadDust x = new RoadDust();
        long least = Long.MAX_VALUE;
        for (int round = 0; round < ROUNDS; round++) {
            long before = threads.getCurrentThreadAllocatedBytes();
            everything(x);
            least = Math.min(least, threads.getCurrentThreadAllocatedBytes() - before);
        }
        return least;
    }

    private static void use(RoadDust x) {
        everything(x);
        everything(x);
        check.throwing("a ninth house", Check.STATE, () -> x.addHouse(0, 0));
        check.throwing("a fourth wagon", Check.STATE, () -> x.addWagon(0));
    }

    /** Every call of the face, and more actions than are remembered; none of them throws. */
    private static void everything(RoadDust x) {
        x.clearText();
        x.append('R');
        x.append('0');
        x.append('1');
        x.append('2');
        x.errorPosition();
        x.load();
        for (int k = 0; k < 8; k++) {
            x.addHouse(0, 9);
        }
        for (int k = 0; k < 3; k++) {
            x.addWagon(0);
        }
        x.save(0);
        x.save(1);
        actions(x);
        forecasts(x);
        x.restore(0);
        x.restore(1);
    }

    private static void actions(RoadDust x) {
        for (int k = 0; k < 16; k++) {
            x.pass(1);
        }
        x.undo();
        x.setSurface(0, 2);
        x.setLimit(0, 1);
        x.set(5, 20);
        x.drive(0, 0);
        x.spray(0, 9);
        x.fill(0);
    }

    private static void forecasts(RoadDust x) {
        x.about(12);
        x.segment(0, 3);
        x.house(7, 2);
        x.wagon(2, 1);
        x.whyNoFill(0);
        x.ahead(0, 20);
        x.waterFor(0);
        x.limitFor(0);
        x.bestSpray(1, 9);
        x.complainsIn(0);
        x.dustiest();
        x.runScript(4, 1050100510051050L);
        x.simulate(1, 99);
    }

    private static SizeTest sizeOf(Object root) throws IllegalAccessException {
        SizeTest size = new SizeTest();
        Set<Object> seen = Collections.newSetFromMap(new IdentityHashMap<>());
        Deque<Object> open = new ArrayDeque<>();
        open.add(root);
        while (!open.isEmpty()) {
            Object next = open.remove();
            if (seen.add(next)) {
                size.objects++;
                if (next.getClass().isArray()) {
                    size.addArray(next, open);
                } else {
                    size.addFields(next, open);
                }
            }
        }
        return size;
    }

    private void addArray(Object array, Deque<Object> open) {
        elements += Array.getLength(array);
        if (array instanceof Object[] row) {
            for (Object element : row) {
                addIfAny(element, open);
            }
        }
    }

    private void addFields(Object object, Deque<Object> open) throws IllegalAccessException {
        for (Field field : object.getClass().getDeclaredFields()) {
            if (!Modifier.isStatic(field.getModifiers())) {
                elements++;
                if (!field.getType().isPrimitive()) {
                    field.setAccessible(true);
                    addIfAny(field.get(object), open);
                }
            }
        }
    }

    private static void addIfAny(Object object, Deque<Object> open) {
        if (object != null) {
            open.add(object);
        }
    }

    @Override
    public String toString() {
        return objects + " objects and " + elements + " fields and elements";
    }
}
