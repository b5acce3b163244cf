import java.lang.management.ManagementFactory;
import java.lang.reflect.Array;
import java.lang.reflect.Field;
import java.lang.reflect.Modifier;
import java.util.ArrayDeque;
import java.util.Collections;
import java.util.IdentityHashMap;
import java.util.Set;

/** All calls of a run live in one room: what an object takes is counted, and that no call makes anything. */
public final class RoomTest {
    private static final int ROOM_OBJECTS = 600_000, ROOM_ELEMENTS = 7_300_000;
    private static final String REEL = "Kd03d22va4(b2(-1a1)2)3.v-1b3a2.v(a9)9.v.";

    private static final Check check = new Check();
    private static final Set<Object> met = Collections.newSetFromMap(new IdentityHashMap<>());
    private static long elements = 0;

    public static void main(String[] args) throws IllegalAccessException {
        CelSheets used = new CelSheets();
        useAll(used);
        countFrom(used);
        System.out.println(met.size() + " objects and arrays, " + elements + " fields and elements");
        // as if each of a run's calls made one
        check.holds("objects and arrays", (long) met.size() * Desk.MOST_CALLS < ROOM_OBJECTS);
        check.holds("fields and elements", elements * Desk.MOST_CALLS < ROOM_ELEMENTS);
        noCallMakesAnything();
        check.end();
    }

    private static void countFrom(Object first) throws IllegalAccessException {
        ArrayDeque<Object> open = new ArrayDeque<>();
        open.add(first);
        while (!open.isEmpty()) {
            Object o = open.remove();
            if (!met.add(o)) continue;
            if (o.getClass().isArray()) countArray(o, open);
            else countFields(o, open);
        }
    }

    private static void countArray(Object array, ArrayDeque<Object> open) {
        int length = Array.getLength(array);
        elements += length;
        boolean plain = array.getClass().getComponentType().isPrimitive();
        for (int i = 0; !plain && i < length; i++) {
            if (Array.get(array, i) != null) open.add(Array.get(array, i));
        }
    }

    private static void countFields(Object o, ArrayDeque<Object> open) throws IllegalAccessException {
        for (Field f : o.getClass().getDeclaredFields()) {
            if (Modifier.isStatic(f.getModifiers())) continue;
            elements++;
            f.setAccessible(true);
            if (!f.getType().isPrimitive() && f.get(o) != null) open.add(f.get(o));
        }
    }

    private static void noCallMakesAnything() {
        if (!(ManagementFactory.getThreadMXBean() instanceof com.sun.management.ThreadMXBean bean)) {
            System.out.println("what calls make can not be measured on this machine");
            return;
        }
        CelSheets x = new CelSheets();
        for (int i = 0; i < 3; i++) {
            useAll(x);
            bean.getCurrentThreadAllocatedBytes();
        }
        long before = bean.getCurrentThreadAllocatedBytes();
        useAll(x);
        long behind = bean.getCurrentThreadAllocatedBytes();
        check.due("bytes made by calls", behind - before, 0);
    }

    /** Some 110 calls, each call of the face among them. */
    private static void useAll(CelSheets x) {
        x.wipe();
        for (int i = 0; i < REEL.length(); i++) x.write(REEL.charAt(i));
        meant(x.fault() == CelSheets.NONE && x.reel() == 4);
        for (int level = 0; level < 4; level++) {
            for (int what = 0; what < 4; what++) x.level(level, what);
            x.share(level, true);
        }
        x.drawing(1, 2);
        x.where(9, 47);
        x.redraw(0, 4, 5);
        x.delay(1, 9);
        x.pan(9, 1, 1, 2);
        x.swap(3, 3210);
        x.swap(3, 123);
        x.back();
        x.undo();
        x.exposed(1, 3);
        x.order(3);
        x.look(3, 3);
        x.ask(0);
        x.ask(1);
        x.judge(4, 1009409570005009L);
        x.see(1, 1, 0);
        x.which();
        x.unsee();
        x.lost(1, 1, 5, false);
        x.looks(40);
        x.seed(1);
        for (int i = 0; i < 16; i++) x.delay(0, 1);
        x.keep(0);
        x.again(0);
        x.keep(1);
        meant(x.count(2) == 4);
    }

    private static void meant(boolean so) {
        if (!so) throw new IllegalStateException("the calls are not those that were meant");
    }
}
