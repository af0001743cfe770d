import com.sun.management.ThreadMXBean;
import java.lang.management.ManagementFactory;
import java.lang.reflect.Array;
import java.lang.reflect.Field;
import java.lang.reflect.Modifier;
import java.util.ArrayDeque;
import java.util.Collections;
import java.util.IdentityHashMap;
import java.util.Set;

/** What an object takes of the room that all calls share: little when it is made, nothing when it is called. */
final class RoomTest {
    private static final int MOST_OBJECTS = 600;
    private static final int MOST_ELEMENTS = 7000;
    private static final int SLACK_BYTES = 20_000;
    /** Four of them, with the first use, stay below the 512 calls that an object is for. */
    private static final int TURNS = 3;

    private RoomTest() {
    }

    public static void main(String[] args) throws IllegalAccessException {
        ThresholdBench x = new ThresholdBench();
        long[] made = count(x);
        System.out.println("an object takes " + made[0] + " objects and arrays, " + made[1] + " fields and elements");
        Check.due("few objects", made[0] <= MOST_OBJECTS, true);
        Check.due("few elements", made[1] <= MOST_ELEMENTS, true);
        useAll(x);
        long[] used = count(x);
        Check.due("as many objects after use", used[0], made[0]);
        Check.due("as many elements after use", used[1], made[1]);
        ThresholdBench[] others = {x, new ThresholdBench(), new ThresholdBench(), new ThresholdBench()};
        ThreadMXBean threads = (ThreadMXBean) ManagementFactory.getThreadMXBean();
        long before = threads.getCurrentThreadAllocatedBytes();
        for (ThresholdBench other : others) {
            for (int turn = 0; turn < TURNS; turn++) {
                useAll(other);
            }
        }
        long bytes = threads.getCurrentThreadAllocatedBytes() - before;
        System.out.println("twelve signatures take " + bytes + " bytes");
        Check.due("calls make nothing", bytes < SLACK_BYTES, true);
        Check.end();
    }

    /** Every call once or more, none of which throws. */
    private static void useAll(ThresholdBench x) {
        x.feed(20, 1, 2, 3, 4, 5);
        x.message();
        for (int k = 0; k < 8; k++) {
            feed32(x, k + 1);
        }
        x.deal(8, 8);
        feed32(x, 9);
        x.change(8);
        for (int i = 1; i <= 8; i++) {
            feed32(x, i);
            feed32(x, -i);
            x.commit(i);
        }
        x.choose(255);
        for (int i = 1; i <= 7; i++) {
            x.share(i);
        }
        feed32(x, 3);
        x.other(8);
        x.right(1);
        x.gather();
        feed32(x, 0x02000000);
        feed32(x, 5);
        x.feed(1, 0, 0, 0, 0, 0);
        x.holds();
        for (int what = 0; what <= 8; what++) {
            x.show(what, 1);
            x.output(what);
            x.about(what);
        }
    }

    private static void feed32(ThresholdBench x, int value) {
        x.feed(20, value >>> 1, 1, 2, 3, 4);
        x.feed(12, 5, 6, value, 0, 0);
    }

    /** Objects and arrays that hang on the root, and their fields and elements. */
    private static long[] count(Object root) throws IllegalAccessException {
        Set<Object> seen = Collections.newSetFromMap(new IdentityHashMap<>());
        ArrayDeque<Object> open = new ArrayDeque<>();
        open.add(root);
        seen.add(root);
        long elements = 0;
        while (!open.isEmpty()) {
            Object one = open.remove();
            if (one.getClass().isArray()) {
                elements += Array.getLength(one);
                for (int k = 0; k < Array.getLength(one) && !one.getClass().getComponentType().isPrimitive(); k++) {
                    note(Array.get(one, k), seen, open);
                }
                continue;
            }
            for (Field field : one.getClass().getDeclaredFields()) {
                if (!Modifier.isStatic(field.getModifiers())) {
                    elements++;
                    field.setAccessible(true);
                    if (!field.getType().isPrimitive()) {
                        note(field.get(one), seen, open);
                    }
                }
            }
        }
        return new long[] {seen.size(), elements};
    }

    private static void note(Object one, Set<Object> seen, ArrayDeque<Object> open) {
        if (one != null && seen.add(one)) {
            open.add(one);
        }
    }
}
