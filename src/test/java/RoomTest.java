import java.lang.management.ManagementFactory;
import java.lang.reflect.Array;
import java.lang.reflect.Field;
import java.lang.reflect.Modifier;
import java.util.ArrayDeque;
import java.util.Collections;
import java.util.Deque;
import java.util.IdentityHashMap;
import java.util.Set;

/**
 * All calls of a run live in one room of some 600,000 objects and arrays, 7.3 million fields and elements:
 * so an object of the class stays small (a thousand of them fit), and no call makes anything.
 */
public final class RoomTest {
    private static final int MOST_OBJECTS = 600, MOST_ELEMENTS = 7300;
    private static final int ROUNDS = 400;
    /** What the machine itself may take in all; if one of the calls made one object, it would be 16 bytes a round. */
    private static final long MOST_BYTES = 12L * ROUNDS;

    private static int wrong = 0;

    private static void hold(String what, boolean isSo) {
        if (!isSo) {
            wrong++;
            System.out.println("not so: " + what);
        }
    }

    /** How many objects and arrays there are within x, itself too, and how many fields and elements they have. */
    private static int[] sizeOf(Object x) throws IllegalAccessException {
        Set<Object> seen = Collections.newSetFromMap(new IdentityHashMap<>());
        Deque<Object> open = new ArrayDeque<>();
        int elements = 0;
        open.add(x);
        seen.add(x);
        while (!open.isEmpty()) {
            Object one = open.remove();
            if (one.getClass().isArray()) {
                elements += Array.getLength(one);
                for (int i = 0; one instanceof Object[] && i < Array.getLength(one); i++) {
                    note(Array.get(one, i), seen, open);
                }
                continue;
            }
            for (Field f : one.getClass().getDeclaredFields()) {
                if (!Modifier.isStatic(f.getModifiers())) {
                    elements++;
                    f.setAccessible(true);
                    note(f.getType().isPrimitive() ? null : f.get(one), seen, open);
                }
            }
        }
        return new int[] {seen.size(), elements};
    }

    private static void note(Object part, Set<Object> seen, Deque<Object> open) {
        if (part != null && seen.add(part)) {
            open.add(part);
        }
    }

    private static NinthWave told(String text) {
        NinthWave x = new NinthWave();
        feed(x, text);
        x.sea();
        return x;
    }

    private static void feed(NinthWave x, String text) {
        for (int i = 0; i < text.length(); i++) {
            x.feed(text.charAt(i));
        }
    }

    /** Every call of the face but the constructor, once at least, at its dearest. */
    private static int allCalls(NinthWave x, String text) {
        int sum = x.row(0, 2, 40) + x.row(1, 2, 40) + x.set(0, 0, 399) + x.copy(0, 0, 1, 0, 40) + x.drop(1);
        feed(x, text);
        sum += x.sea() + x.fault() + x.image(0) + x.waves(24) + x.slip(0, 9) + x.law(2) + x.change(0, 5);
        sum += x.restore(0) + x.heeds(0, 1) + x.undo() + x.ship(0, 2) + x.tower(0, 2) + x.wave(1199, 2);
        sum += x.ahead(200, 0) + x.shipAhead(5, 200, 1) + x.towerAhead(2, 200) + x.called(0, 1000) + x.fit(0, 1000);
        sum += x.highest(100, 1) + x.order(60, -1) + x.laws(200, 1) + x.bribe(0, 2) + x.heed(0) + x.agreed(100, 0);
        sum += x.log(0, 0, 1, 0) + x.wreck(99, 1, 100, 0) + x.season(100, 999999, 1);
        sum += x.kind(0) + x.as(0, 5) + x.ask(0, 0) + x.trace(5) + x.count(6) + x.status();
        feed(x, "b61,0;");
        return sum + x.sea() + x.row(0, 0, -1) + x.waves(25) + x.ask(20, 2);
    }

    private static long taken() {
        com.sun.management.ThreadMXBean bean = (com.sun.management.ThreadMXBean) ManagementFactory.getThreadMXBean();
        return bean.getThreadAllocatedBytes(Thread.currentThread().getId());
    }

    public static void main(String[] args) throws IllegalAccessException {
        String text = "b60,9;" + "s30;".repeat(20) + "t7,8;t6,8;t5,8;" + "h99,0;h30,1;h20,2;".repeat(2);
        allCalls(told(text), text);
        int[] size = sizeOf(new NinthWave());
        hold("an object has at most " + MOST_OBJECTS + " objects: " + size[0], size[0] <= MOST_OBJECTS);
        hold("an object has at most " + MOST_ELEMENTS + " fields and elements: " + size[1], size[1] <= MOST_ELEMENTS);
        NinthWave[] each = new NinthWave[ROUNDS];
        for (int k = 0; k < ROUNDS; k++) {
            each[k] = told(text);
        }
        int sum = 0;
        long before = taken();
        before = taken();
        for (int k = 0; k < ROUNDS; k++) {
            sum += allCalls(each[k], text);
        }
        long bytes = taken() - before;
        hold("no call makes an object: " + bytes + " bytes (" + sum + ")", bytes <= MOST_BYTES);
        int[] then = sizeOf(each[0]);
        hold("calls leave an object as large as it was", then[0] == size[0] && then[1] == size[1]);
        System.out.println(size[0] + " objects, " + size[1] + " fields and elements; calls took " + bytes + " bytes");
        if (wrong != 0) {
            System.exit(1);
        }
    }
}
