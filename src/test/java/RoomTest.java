import java.lang.management.ManagementFactory;
import java.lang.reflect.Array;
import java.lang.reflect.Field;
import java.lang.reflect.Modifier;
import java.util.ArrayDeque;
import java.util.Collections;
import java.util.Deque;
import java.util.IdentityHashMap;
import java.util.Set;

/** The room: what an object is made of, and that calls make nothing more. */
final class RoomTest {
    private static final int OBJECTS = 100, ELEMENTS = 6000;

    private RoomTest() {
    }

    static void run() throws IllegalAccessException {
        made();
        calls();
    }

    private static void made() throws IllegalAccessException {
        Set<Object> all = Collections.newSetFromMap(new IdentityHashMap<>());
        Deque<Object> left = new ArrayDeque<>();
        left.add(new FilmNoises());
        long elements = 0;
        while (!left.isEmpty()) {
            Object one = left.remove();
            if (!all.add(one)) {
                continue;
            }
            if (one.getClass().isArray()) {
                elements += Array.getLength(one);
                continue;
            }
            for (Field f : one.getClass().getDeclaredFields()) {
                if (!Modifier.isStatic(f.getModifiers())) {
                    elements++;
                    f.setAccessible(true);
                    if (!f.getType().isPrimitive()) {
                        left.add(f.get(one));
                    }
                }
            }
        }
        Due.holds("objects made: " + all.size(), all.size() < OBJECTS);
        Due.holds("fields and elements made: " + elements, elements < ELEMENTS);
    }

    private static void calls() {
        FilmNoises x = Due.reel(4, "at 0 0 1 2;at 1 1 2 3;at 2 2 3 4;at 3 3 4 5;at 3 3 1 1;at 3 1 4 2;");
        for (int i = 0; i < 4; i++) {
            x.meaning(i);
            x.house();
            x.see(i);
            x.level(i, i, 20 * i);
        }
        everyCall(x);
        com.sun.management.ThreadMXBean threads = (com.sun.management.ThreadMXBean) ManagementFactory.getThreadMXBean();
        long thread = Thread.currentThread().getId();
        long ahead = threads.getThreadAllocatedBytes(thread);
        for (int i = 0; i < 100; i++) {
            everyCall(x);
        }
        long bytes = threads.getThreadAllocatedBytes(thread) - ahead;
        Due.holds("calls make nothing: " + bytes + " bytes in 4400 calls", bytes < 10000);
    }

    private static void everyCall(FilmNoises x) {
        x.thing(9, 0);
        x.level(0, 0, 50);
        x.meaning(-1);
        x.want(0, 0, 300);
        x.put(0, 500);
        x.value(0, 0, 7, 1);
        x.loud(0, 0, 1);
        x.likeness(0, 0, 1);
        x.taken(0, 0, 1, 0, 1);
        x.most(0, 0, 9, 4);
        x.may(0, 0, 1, 2);
        x.best(0);
        x.truer(0, 1, 2);
        x.serves(7, 0);
        x.cupboard(2);
        x.words();
        x.beast(1);
        x.type(' ', 1);
        x.image(0);
        x.from(0);
        x.fault();
        x.places();
        x.hidden(0, 3);
        x.unheard();
        x.kept();
        x.order(-1);
        x.order(2);
        x.hands(0);
        x.lag(90, 3, 4, 5, 39);
        x.mended(90, 3, 4, 5, 40, 9);
        x.steady(90, 3, 4, 5, 9);
        x.house();
        x.habit(0, 1, 2);
        x.see(1);
        x.forget();
        x.whose(0);
        x.see(2);
        x.whose(1);
        x.sign(1);
        x.limb(1, 0);
        x.status(9);
        x.count(2);
        x.digest();
        x.from(1);
    }
}
