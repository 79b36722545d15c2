import java.lang.management.ManagementFactory;
import java.lang.reflect.Array;
import java.lang.reflect.Field;
import java.lang.reflect.Modifier;
import java.util.ArrayDeque;
import java.util.Collections;
import java.util.Deque;
import java.util.IdentityHashMap;
import java.util.Set;

/** All calls of a run live in one room: what a new object takes of it, and that no call takes more. */
public final class RoomTest {
    private static final Due DUE = new Due("RoomTest");
    private static final int ROUNDS = 200;
    private static final com.sun.management.ThreadMXBean THREADS =
        (com.sun.management.ThreadMXBean) ManagementFactory.getThreadMXBean();

    public static void main(String[] args) throws IllegalAccessException {
        DUE.promise(1, "room");
        newObject();
        calls();
        DUE.end();
    }

    private static void newObject() throws IllegalAccessException {
        int[] room = roomOf(new FurrowNames());
        System.out.println("a new object: " + room[0] + " objects and arrays, " + room[1] + " fields and elements");
        DUE.is("at most 300 objects and arrays", room[0] <= 300 ? 1 : 0, 1);
        DUE.is("at most 4000 fields and elements", room[1] <= 4000 ? 1 : 0, 1);
    }

    private static int[] roomOf(Object first) throws IllegalAccessException {
        Set<Object> seen = Collections.newSetFromMap(new IdentityHashMap<>());
        Deque<Object> open = new ArrayDeque<>();
        open.add(first);
        int parts = 0;
        while (!open.isEmpty()) {
            Object o = open.remove();
            if (!seen.add(o)) {
                continue;
            }
            if (o.getClass().isArray()) {
                parts += Array.getLength(o);
                for (int i = 0; i < Array.getLength(o) && !o.getClass().getComponentType().isPrimitive(); i++) {
                    open.add(Array.get(o, i));
                }
                continue;
            }
            for (Class<?> c = o.getClass(); c != Object.class; c = c.getSuperclass()) {
                for (Field f : c.getDeclaredFields()) {
                    if (!Modifier.isStatic(f.getModifiers())) {
                        parts++;
                        f.setAccessible(true);
                        if (!f.getType().isPrimitive() && f.get(o) != null) {
                            open.add(f.get(o));
                        }
                    }
                }
            }
        }
        return new int[] {seen.size(), parts};
    }

    private static void calls() {
        String text = "9;p52,r43,o71,h34,d94;12-4,18-15,5-0,20-9,9-9";
        FurrowNames x = Due.parish(text);
        every(x, text);
        long before = THREADS.getThreadAllocatedBytes(Thread.currentThread().getId());
        for (int i = 0; i < ROUNDS; i++) {
            every(x, text);
        }
        long taken = THREADS.getThreadAllocatedBytes(Thread.currentThread().getId()) - before;
        System.out.println(ROUNDS + " times all calls: " + taken + " bytes");
        // The smallest object takes 16 bytes; one in each round would be seen.
        DUE.is("no call makes an object", taken < ROUNDS * 16 ? 1 : 0, 1);
    }

    private static void every(FurrowNames x, String text) {
        for (int i = 0; i < text.length(); i++) {
            x.type(text.charAt(i));
        }
        x.parish();
        x.type(50);
        x.parish();
        // The text leaves room for one more of each; the second of each is refused.
        for (int i = 0; i < 2; i++) {
            x.man(0, 1, 1);
            x.name(1, 1);
        }
        x.marches(9);
        x.drift(9);
        x.train(0);
        x.hire(0, 3);
        x.swap(0, 1);
        x.undo();
        x.image();
        x.restore();
        x.seed(x.stones(4));
        for (int what = 0; what < 9; what++) {
            x.count(what);
            x.of(2, what);
            x.named(2, what);
        }
        x.values(1, 1);
        x.ahead(0, 60, 1);
        x.nameAhead(0, 60, 1);
        for (int i = 0; i < 36; i++) {
            x.needs(i / 6, i % 6);
        }
        x.field(0);
        x.parting(5);
        x.change(-1);
        x.luck(0, 3, 0);
        x.top(0, 60);
        x.sheet(0, 2, 24);
        x.sheet(1, 2, 24);
        x.film(0, 24, 0, 2, 0);
        x.ledger(0, 0, 2, 0, 8);
        x.item(0, 2, 3, 1L);
        x.copy(0, 0, 1, 1, 9);
        x.drop(1);
    }
}
