import java.lang.management.ManagementFactory;
import java.lang.reflect.Array;
import java.lang.reflect.Field;
import java.lang.reflect.Modifier;
import java.util.IdentityHashMap;
import java.util.Map;

/** All calls of one run live in one room: an object is small when it is made, stays so, and its calls make nothing. */
public final class RoomTest {
    private static final String BIG = "baker a costs 2 fits 1 enters 10;baker b costs 4 fits 2 enters 10;baker c costs 3 fits 1 enters 10;"
        + "sort s new 10 worth 20 leaves 3 stays 50 near;sort t new 4 worth 9 leaves 1 stays 80 far;"
        + "sort u new 7 worth 30 leaves 9 stays 100 far;sort v new 9 worth 15 leaves 2 stays 20 near;prices two 5,6,10;keep 50";

    public static void main(String[] args) throws IllegalAccessException {
        StayHouse x = new StayHouse();
        long made = elements(x);
        Check.due("some ten thousand elements: " + made, made < 15000, true);
        Check.town(x, BIG);
        use(x, 1);
        Check.due("elements stay", elements(x), made);
        Check.town(x, BIG.replace("two", "one"));
        use(x, 3);
        Check.due("elements stay", elements(x), made);
        callsMakeNothing();
        Check.end();
    }

    private static void use(StayHouse x, int n) {
        x.hold(0, 0, 30);
        x.hold(1, 1, 20);
        x.hold(2, 2, 25);
        x.seed(77);
        x.go(3);
        x.again(1);
        x.rest(n);
        x.act(0, 0);
        x.lures(1, 0);
        x.gain(0);
        x.best(1);
        x.kindest(0, n);
        x.leavings(1, n, 4);
        x.promise(0, 0, n);
        x.shape(0, 1, n);
        x.fit(1, n);
        x.late(2, n);
        x.edge();
        x.town(-1);
        x.town(0);
    }

    private static void callsMakeNothing() {
        StayHouse x = new StayHouse();
        Check.town(x, BIG);
        use(x, 1);
        com.sun.management.ThreadMXBean bean = (com.sun.management.ThreadMXBean) ManagementFactory.getThreadMXBean();
        long thread = Thread.currentThread().getId();
        bean.getThreadAllocatedBytes(thread);
        long before = bean.getThreadAllocatedBytes(thread);
        for (int i = 0; i < 15; i++) {
            use(x, 1);
        }
        long bytes = bean.getThreadAllocatedBytes(thread) - before;
        // The reading itself, and what the machine makes on its own, are left some room.
        Check.due("bytes made by three hundred calls: " + bytes, bytes < 20000, true);
    }

    /** Fields and elements of all that an object holds. */
    private static long elements(Object root) throws IllegalAccessException {
        Map<Object, Boolean> seen = new IdentityHashMap<>();
        return count(root, seen);
    }

    private static long count(Object o, Map<Object, Boolean> seen) throws IllegalAccessException {
        if (o == null || seen.put(o, true) != null) {
            return 0;
        }
        if (o.getClass().isArray()) {
            long sum = Array.getLength(o);
            for (int i = 0; i < Array.getLength(o) && !o.getClass().getComponentType().isPrimitive(); i++) {
                sum += count(Array.get(o, i), seen);
            }
            return sum;
        }
        long sum = 0;
        for (Field f : o.getClass().getDeclaredFields()) {
            if (!Modifier.isStatic(f.getModifiers())) {
                f.setAccessible(true);
                sum += 1 + (f.getType().isPrimitive() ? 0 : count(f.get(o), seen));
            }
        }
        return sum;
    }
}
