import java.lang.reflect.Method;
import java.util.Arrays;

/** Every number of every call, at both ends of its range and just outside them. */
final class EdgesTest {
    private EdgesTest() {
    }

    static void run() {
        range("thing", 0, 0, 4, 0, 0);
        range("thing", 1, 0, 9, 0, 0);
        range("level", 0, 0, 2, 0, 0, 0);
        range("level", 1, 0, 5, 0, 0, 0);
        range("level", 2, 0, 99, 0, 0, 0);
        range("meaning", 0, 0, 99, 0);
        range("want", 0, 0, 1, 0, 0, 0);
        range("want", 1, 0, 5, 0, 0, 0);
        range("want", 2, 0, 799, 0, 0, 0);
        range("put", 0, 0, 4, 0, 1);
        range("put", 1, 0, 2000, 0, 1);
        range("put", 1, 1, 9, 1, 1);
        range("put", 1, 1, 9, 2, 1);
        range("put", 1, 0, 99, 3, 1);
        range("put", 1, 0, 99, 4, 1);
        sounds();
        shares();
        reels();
        walkers();
        range("habit", 0, 0, 1, 0, 0, 0);
        range("habit", 1, 0, 9, 0, 0, 0);
        range("habit", 2, 0, 9, 0, 0, 0);
        range("see", 0, 0, 9, 0);
        range("whose", 0, 0, 1, 0);
        range("sign", 0, 0, 2, 0);
        range("limb", 0, 0, 1, 0, 0);
        range("limb", 1, 0, Due.GREATEST, 0, 0);
        range("image", 0, 0, 1, 0);
        range("from", 0, 0, 1, 0);
        range("status", 0, 0, 2, 0);
        range("count", 0, 0, 4, 0);
    }

    private static void sounds() {
        range("value", 0, 0, 2, 0, 0, 0, 0);
        range("value", 1, 0, 5, 0, 0, 0, 0);
        range("value", 2, 0, 7, 0, 0, 0, 0);
        range("value", 3, 0, 9, 0, 0, 0, 0);
        range("loud", 0, 0, 2, 0, 0, 0);
        range("loud", 1, 0, 5, 0, 0, 0);
        range("loud", 2, 0, 9, 0, 0, 0);
        range("likeness", 0, 0, 2, 0, 0, 0);
        range("likeness", 1, 0, 1, 0, 0, 0);
        range("likeness", 2, 0, 9, 0, 0, 0);
    }

    private static void shares() {
        range("taken", 0, 0, 2, 0, 0, 0, 0, 0);
        range("taken", 1, 0, 1, 0, 0, 0, 0, 0);
        range("taken", 2, 0, 9, 0, 0, 0, 0, 0);
        range("taken", 3, -1, 1, 0, 0, 0, 0, 0);
        range("taken", 4, -9, 9, 0, 0, 0, 0, 0);
        range("taken", 4, 0, 0, 0, 0, 0, -1, 0);
        range("most", 0, 0, 2, 0, 0, 9, 0);
        range("most", 1, 0, 1, 0, 0, 9, 0);
        range("most", 2, 1, 9, 0, 0, 9, 0);
        range("most", 2, 3, 9, 0, 0, 9, 3);
        range("most", 3, 0, 9, 0, 0, 9, 0);
        range("most", 3, 0, 4, 0, 0, 4, 0);
        range("may", 0, 0, 2, 0, 0, 1, 99);
        range("may", 1, 0, 1, 0, 0, 1, 99);
        range("may", 2, 1, 99, 0, 0, 1, 99);
        range("may", 2, 1, 7, 0, 0, 1, 7);
        range("may", 3, 1, 99, 0, 0, 1, 99);
        range("may", 3, 7, 99, 0, 0, 7, 99);
        range("best", 0, 0, 1, 0);
        range("truer", 0, 0, 1, 0, 0, 1);
        range("truer", 1, 0, 0, 0, 0, 1);
        range("truer", 1, 2, 2, 0, 2, 1);
        range("truer", 2, 0, 0, 0, 1, 0);
        range("truer", 2, 2, 2, 0, 1, 2);
        range("serves", 0, 0, 7, 0, 0);
        range("serves", 1, 0, 1, 0, 0);
        range("cupboard", 0, 0, 3, 0);
        range("beast", 0, 0, 1, 0);
    }

    private static void reels() {
        range("type", 1, 1, 8, 0, 1);
        range("hidden", 0, 0, 2, 0, 0);
        range("hidden", 1, 0, 7, 0, 0);
        range("order", 0, -1, Due.GREATEST, 0);
        range("hands", 0, 0, 1, 0);
    }

    private static void walkers() {
        int[][] ends = {{0, 99}, {1, 9}, {1, 9}, {0, 20}};
        for (int i = 0; i < 4; i++) {
            range("lag", i, ends[i][0], ends[i][1], 0, 1, 1, 0, 0);
            range("mended", i, ends[i][0], ends[i][1], 0, 1, 1, 0, 1, 0);
            range("steady", i, ends[i][0], ends[i][1], 0, 1, 1, 0, 0);
        }
        range("lag", 4, 0, 39, 0, 1, 1, 0, 0);
        range("mended", 4, 1, 40, 0, 1, 1, 0, 1, 0);
        range("mended", 5, 0, 99, 0, 1, 1, 0, 1, 0);
        range("steady", 4, 0, 99, 0, 1, 1, 0, 0);
    }

    /** Three things, two meanings, three places, two houses, both images; all of them unlike what is there at first. */
    private static FilmNoises furnished() {
        FilmNoises x = new FilmNoises();
        x.from(0);
        x.see(4);
        x.image(0);
        for (int i = 0; i < 3; i++) {
            x.thing(1 + i, 2 + i);
            x.level(i, i, 40 + i);
        }
        x.image(1);
        for (int i = 0; i < 2; i++) {
            x.meaning(10 + i);
            x.want(i, i, 90 + i);
            x.house();
            x.habit(i, 1, 4 + i);
        }
        Due.type(x, "at 1 0 0 0; at 2 1 1 0; at 2 2 0 1;");
        for (int what = 0; what < 5; what++) {
            x.put(what, 4 + what);
        }
        x.whose(1);
        return x;
    }

    private static void range(String name, int which, int least, int greatest, int... told) {
        accepted(name, which, least, told);
        accepted(name, which, greatest, told);
        for (int v : new int[] {least - 1, greatest + 1, Due.LEAST, Due.GREATEST}) {
            if (v < least || v > greatest) {
                refused(name, which, v, told);
            }
        }
    }

    private static long call(FilmNoises x, String name, int[] told) {
        Object[] all = new Object[told.length];
        try {
            Method method = method(name);
            for (int i = 0; i < told.length; i++) {
                if (method.getParameterTypes()[i] == long.class) {
                    all[i] = (long) told[i];
                } else {
                    all[i] = told[i];
                }
            }
            return ((Number) method.invoke(x, all)).longValue();
        } catch (ReflectiveOperationException e) {
            e.printStackTrace(System.out);
            return Long.MIN_VALUE;
        }
    }

    private static Method method(String name) throws NoSuchMethodException {
        for (Method method : FilmNoises.class.getDeclaredMethods()) {
            if (method.getName().equals(name)) {
                return method;
            }
        }
        throw new NoSuchMethodException(name);
    }

    private static int[] with(int[] told, int which, int v) {
        int[] all = told.clone();
        all[which] = v;
        return all;
    }

    private static void accepted(String name, int which, int v, int[] told) {
        FilmNoises x = furnished();
        int[] status = Due.statusOf(x);
        int[] all = with(told, which, v);
        Due.holds(name + Arrays.toString(all) + " is answered", call(x, name, all) != Long.MIN_VALUE);
        Due.same(name + Arrays.toString(all) + " is not BAD", x.status(0), status[0]);
    }

    private static void refused(String name, int which, int v, int[] told) {
        int[] all = with(told, which, v);
        int due = name.equals("may") ? -10 : name.equals("status") ? -1 : -2;
        Due.refused(name + Arrays.toString(all), EdgesTest::furnished, x -> call(x, name, all), due, 0);
    }
}
