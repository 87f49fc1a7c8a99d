import java.lang.reflect.Method;
import java.util.Arrays;
import java.util.Comparator;
import java.util.Random;

/** Holds the class against the model, call by call, on runs told by fixed seeds. */
final class ModelTest {
    private static final int RUNS = 260, CALLS = 512;
    private static final int[] EDGES = {
        Integer.MIN_VALUE, Integer.MIN_VALUE + 1, -11, -10, -9, -3, -2, -1, 0, 1, 2, 3, 4, 5, 6, 7, 8, 9, 10, 11, 20, 21,
        31, 32, 33, 39, 40, 41, 63, 64, 98, 99, 100, 255, 256, 799, 800, 999, 1023, 1024, 2000, 2001, 65536,
        Integer.MAX_VALUE - 1, Integer.MAX_VALUE};
    private static final Method[] FACE = face();

    private final Random random;
    private final FilmNoises x = new FilmNoises();
    private final Model model = new Model();
    private final StringBuilder lastCalls = new StringBuilder();
    private String pending = "";
    private boolean agree = true;

    private ModelTest(long seed) {
        random = new Random(seed);
    }

    static void run() {
        int[] hits = new int[FACE.length];
        for (int seed = 0; seed < RUNS; seed++) {
            new ModelTest(seed).go(seed, hits);
        }
        for (int i = 0; i < FACE.length; i++) {
            Due.holds(FACE[i].getName() + " was answered without refusal " + hits[i] + " times", hits[i] > 100);
        }
    }

    private static Method[] face() {
        Method[] all = Arrays.stream(FilmNoises.class.getDeclaredMethods())
            .filter(m -> java.lang.reflect.Modifier.isPublic(m.getModifiers())).toArray(Method[]::new);
        Arrays.sort(all, Comparator.comparing(Method::getName));
        return all;
    }

    private void go(int seed, int[] hits) {
        try {
            int made = seed % 4 == 0 ? 0 : 60;
            for (int i = 0; i < CALLS && agree; i++) {
                int which = i < made ? index(building()) : random.nextInt(FACE.length);
                // A text goes in piece by piece once it has been begun.
                if (!pending.isEmpty() && random.nextInt(3) > 0) {
                    which = index("type");
                }
                // A full film is looked at more often than it is made anew.
                if (FACE[which].getName().equals("from") && random.nextInt(3) > 0) {
                    which = index("image");
                }
                call(seed, i, which, hits);
            }
        } catch (ReflectiveOperationException e) {
            e.printStackTrace(System.out);
            agree = false;
        }
        Due.holds("run of seed " + seed, agree);
    }

    private String building() {
        String[] names = {"thing", "thing", "level", "level", "level", "level", "meaning", "want", "want", "want", "house", "habit",
            "see", "type", "put"};
        return names[random.nextInt(names.length)];
    }

    private static int index(String name) {
        for (int i = 0; i < FACE.length; i++) {
            if (FACE[i].getName().equals(name)) {
                return i;
            }
        }
        throw new IllegalStateException(name);
    }

    private void call(int seed, int number, int which, int[] hits) throws ReflectiveOperationException {
        Method method = FACE[which];
        Object[] told = arguments(method);
        Method other = Model.class.getDeclaredMethod(method.getName(), method.getParameterTypes());
        Object due = other.invoke(model, told);
        Object got = method.invoke(x, told);
        String call = method.getName() + Arrays.toString(told);
        lastCalls.append(call).append(" = ").append(due).append('\n');
        boolean same = due.equals(got) && x.digest() == model.digest();
        for (int i = 0; i < 3; i++) {
            same &= x.status(i) == model.status[i];
        }
        if (!same) {
            agree = false;
            System.out.println("seed " + seed + ", call " + number + ":\n" + lastCalls + "but the class answered " + got);
        }
        if (((Number) due).longValue() >= 0 || method.getName().equals("digest")) {
            hits[which]++;
        }
    }

    private Object[] arguments(Method method) {
        String name = method.getName();
        int count = method.getParameterCount();
        Object[] told = new Object[count];
        if (name.equals("type")) {
            return typed();
        }
        for (int i = 0; i < count; i++) {
            told[i] = random.nextInt(count > 3 ? 40 : 14) == 0 ? edge() : ordinary(name, i, told);
        }
        return told;
    }

    private int edge() {
        return EDGES[random.nextInt(EDGES.length)];
    }

    private int upTo(int greatest) {
        return random.nextInt(Math.max(1, greatest + 1));
    }

    private int ordinary(String name, int i, Object[] told) {
        int things = model.s.things.size();
        int meanings = model.s.meanings.size();
        int ats = Math.max(0, places());
        switch (name + i) {
            case "thing0": return upTo(4);
            case "thing1": case "value3": case "loud2": case "likeness2": case "taken2": case "habit1": case "habit2": case "see0":
                return upTo(9);
            case "level0": case "value0": case "loud0": case "likeness0": case "taken0": case "most0": case "may0": case "truer1":
            case "truer2": return upTo(things - 1);
            case "want0": case "likeness1": case "taken1": case "most1": case "may1": case "best0": case "truer0": case "serves1":
            case "beast0": return upTo(meanings - 1);
            case "level1": case "want1": case "value1": case "loud1": return upTo(5);
            case "level2": case "meaning0": return upTo(99);
            case "want2": return wanted((int) told[1]);
            case "put0": return upTo(4);
            case "put1": return putFor((int) told[0]);
            case "value2": return upTo(7);
            case "taken3": return random.nextInt(3) == 0 ? -1 : upTo(meanings - 1);
            case "taken4": return (int) told[3] == -1 ? 0 : random.nextInt(19) - 9;
            case "most2": return 1 + upTo(8);
            case "most3": return upTo(Math.min(9, Math.max(0, (int) told[2])));
            case "may2": return 1 + upTo(50);
            case "may3": return Math.max(1, Math.min(99, (int) told[2])) + upTo(49);
            case "serves0": return upTo((1 << things) - 1);
            case "cupboard0": return upTo(things);
            case "hidden0": return upTo(ats - 1);
            case "hidden1": return upTo((1 << ats) - 1);
            case "order0": return upTo(ats) - 1;
            case "hands0": case "limb0": case "image0": case "from0": return upTo(1);
            case "lag0": case "mended0": case "steady0": case "mended5": return upTo(random.nextBoolean() ? 99 : 20);
            case "steady4": return upTo(random.nextBoolean() ? 99 : 20);
            case "lag1": case "mended1": case "steady1": case "lag2": case "mended2": case "steady2": return 1 + upTo(8);
            case "lag3": case "mended3": case "steady3": return upTo(20);
            case "lag4": return upTo(39);
            case "mended4": return 1 + upTo(39);
            case "habit0": case "whose0": return upTo(model.s.houses.size() - 1);
            case "sign0": case "status0": return upTo(2);
            case "limb1": return upTo(8);
            case "count0": return upTo(4);
            default: throw new IllegalStateException(name + i);
        }
    }

    /** How many places there are, without a refusal. */
    private int places() {
        return model.fault() == -1 ? model.places() : 0;
    }

    private int putFor(int what) {
        switch (what) {
            case 0: return upTo(2000);
            case 1: case 2: return 1 + upTo(8);
            default: return upTo(99);
        }
    }

    /** Often near to what a thing sounds like, so that likenesses lie close together. */
    private int wanted(int band) {
        int things = model.s.things.size();
        if (things == 0 || band < 0 || band > 5 || random.nextInt(4) == 0) {
            return upTo(799);
        }
        int near = model.loud(upTo(things - 1), band, 0) + random.nextInt(40) - 20;
        return Math.max(0, Math.min(799, near));
    }

    private Object[] typed() {
        if (random.nextInt(30) == 0) {
            return new Object[] {random.nextLong(), edge()};
        }
        if (pending.isEmpty()) {
            if (model.s.text.length() > 0 && random.nextInt(4) > 0) {
                x.clear();
                model.clear();
                lastCalls.append("clear\n");
            }
            pending = text();
        }
        int n = Math.min(pending.length(), 1 + random.nextInt(8));
        long v = random.nextInt();
        for (int i = 0; i < n; i++) {
            v = v << 8 | pending.charAt(i);
        }
        pending = pending.substring(n);
        return new Object[] {v, n};
    }

    private String text() {
        StringBuilder text = new StringBuilder(blanks());
        int ats = random.nextInt(random.nextInt(10) == 0 ? 11 : 9);
        int floors = 1 + random.nextInt(4);
        int picture = random.nextInt(20) == 0 ? 990 : random.nextInt(100);
        for (int i = 0; i < ats; i++) {
            if (random.nextInt(4) == 0) {
                text.append("far").append(blanks()).append(random.nextInt(10)).append(blanks()).append(';').append(blanks());
            }
            picture += random.nextInt(3) * random.nextInt(4);
            text.append("at").append(blanks()).append(Math.min(999, picture)).append(gap())
                .append(upTo(model.s.things.size() - 1)).append(gap()).append(random.nextInt(floors)).append(gap())
                .append(random.nextInt(floors)).append(blanks()).append(';').append(blanks());
        }
        if (random.nextInt(4) == 0 && text.length() > 0) {
            spoil(text);
        }
        return text.length() == 0 ? " " : text.toString();
    }

    private String blanks() {
        return random.nextInt(5) > 0 ? "" : random.nextBoolean() ? " " : "  ";
    }

    private String gap() {
        return " " + blanks();
    }

    private void spoil(StringBuilder text) {
        int at = random.nextInt(text.length());
        String signs = "at far;09 \u0000\u001f!/:<`{\u007f\u0080\u00ffAZ\t\n";
        switch (random.nextInt(3)) {
            case 0: text.deleteCharAt(at); break;
            case 1: text.setLength(at); break;
            default: text.insert(at, signs.charAt(random.nextInt(signs.length())));
        }
    }
}
