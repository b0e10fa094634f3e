import com.sun.management.ThreadMXBean;
import java.lang.management.ManagementFactory;
import java.lang.reflect.Array;
import java.lang.reflect.Field;
import java.lang.reflect.Modifier;
import java.util.Collections;
import java.util.IdentityHashMap;
import java.util.Set;

/** All calls of a run live in one room: a new object is small, and calls make nothing. */
public final class RoomTest {
    private static final Check CHECK = new Check("RoomTest");
    /** Even hundreds of objects in a run stay below 7.3 million fields and elements and 600,000 objects. */
    private static final int MOST_ELEMENTS_NEW = 1000;
    private static final int MOST_ELEMENTS_USED = 15000;
    private static final int MOST_OBJECTS = 50;

    private final Set<Object> seen = Collections.newSetFromMap(new IdentityHashMap<>());
    private int elements;

    public static void main(String[] args) throws IllegalAccessException {
        CommonUnits x = new CommonUnits();
        roomOf("a new object", x, MOST_ELEMENTS_NEW);
        Check.type(x, "H10" + "c1005".repeat(12) + "m050m033m012");
        callAll(x);
        roomOf("a used object", x, MOST_ELEMENTS_USED);
        CHECK.due("bytes made by calls", Math.max(0, bytesMadeByCalls()), 0);
        CHECK.end();
    }

    private static void roomOf(String what, CommonUnits x, int mostElements) throws IllegalAccessException {
        RoomTest room = new RoomTest();
        room.measure(x);
        System.out.println(what + ": " + room.seen.size() + " objects, " + room.elements + " elements");
        CHECK.holds("few elements", room.elements <= mostElements);
        CHECK.holds("few objects", room.seen.size() <= MOST_OBJECTS);
    }

    private void measure(Object object) throws IllegalAccessException {
        if (object == null || !seen.add(object)) {
            return;
        }
        Class<?> type = object.getClass();
        if (type.isArray()) {
            elements += Array.getLength(object);
            for (int k = 0; !type.getComponentType().isPrimitive() && k < Array.getLength(object); k++) {
                measure(Array.get(object, k));
            }
            return;
        }
        for (Field field : type.getDeclaredFields()) {
            if (!Modifier.isStatic(field.getModifiers())) {
                elements++;
                field.setAccessible(true);
                if (!field.getType().isPrimitive()) {
                    measure(field.get(object));
                }
            }
        }
    }

    /** The least of several tries: the first one may load classes. */
    private static long bytesMadeByCalls() {
        ThreadMXBean threads = (ThreadMXBean) ManagementFactory.getThreadMXBean();
        long id = Thread.currentThread().getId();
        long least = Long.MAX_VALUE;
        for (int k = 0; k < 5; k++) {
            CommonUnits x = Check.of("H10c1005c0600c3333c4567m050m033m012");
            x.ranked(0);
            long before = threads.getThreadAllocatedBytes(id);
            callAll(x);
            long nothing = threads.getThreadAllocatedBytes(id);
            long after = threads.getThreadAllocatedBytes(id);
            least = Math.min(least, nothing - before - (after - nothing));
        }
        return least;
    }

    private static void callAll(CommonUnits x) {
        x.fault();
        x.hoard();
        x.coin(0, 4);
        x.mint(0, 3);
        x.clean(0, 5);
        x.date(0, 5);
        x.aside(0);
        x.strike(0, 6);
        x.setRate(5);
        x.setLaw(2);
        x.undo();
        x.fits(1, 5, 3);
        x.chain(1, 0);
        x.unit(5, 3);
        x.ranked(5);
        x.pair(3);
        x.judge(3, 100007600099500000L);
        x.see(1, 1);
        x.which(0);
        x.share(1, true);
        x.lost(5, true);
        x.drawn(20);
        x.keep(0);
        x.again(0);
        x.count(6);
        x.unsee();
        x.seed(1);
        x.wipe();
        x.write('H');
    }
}
