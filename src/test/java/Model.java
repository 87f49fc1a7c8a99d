import java.math.BigInteger;
import java.util.ArrayList;
import java.util.List;
import java.util.function.IntPredicate;
import java.util.regex.Matcher;
import java.util.regex.Pattern;

/** The document told a second time, with the whole Java library and by brute force, to be held against the class. */
final class Model {
    static final int NONE = -1, BAD = -2, NO = -3, FULL = -4;

    /** A fraction in lowest terms. */
    static final class Ratio implements Comparable<Ratio> {
        final BigInteger above;
        final BigInteger below;

        Ratio(BigInteger a, BigInteger b) {
            BigInteger g = a.gcd(b);
            above = a.divide(g);
            below = b.divide(g);
        }

        static Ratio of(long a, long b) {
            return new Ratio(BigInteger.valueOf(a), BigInteger.valueOf(b));
        }

        Ratio times(Ratio o) {
            return new Ratio(above.multiply(o.above), below.multiply(o.below));
        }

        Ratio plus(Ratio o) {
            return new Ratio(above.multiply(o.below).add(o.above.multiply(below)), below.multiply(o.below));
        }

        Ratio by(Ratio o) {
            return new Ratio(above.multiply(o.below), below.multiply(o.above));
        }

        boolean isZero() {
            return above.signum() == 0;
        }

        @Override
        public int compareTo(Ratio o) {
            return above.multiply(o.below).compareTo(o.above.multiply(below));
        }
    }

    static final Ratio ZERO = Ratio.of(0, 1), ONE = Ratio.of(1, 1);

    static final class State {
        List<int[]> things = new ArrayList<>();
        List<int[]> meanings = new ArrayList<>();
        int[] puts = {500, 3, 3, 20, 30};
        StringBuilder text = new StringBuilder();
        List<int[]> houses = new ArrayList<>();
        List<Integer> seen = new ArrayList<>();

        State copy() {
            State s = new State();
            things.forEach(t -> s.things.add(t.clone()));
            meanings.forEach(m -> s.meanings.add(m.clone()));
            s.puts = puts.clone();
            s.text = new StringBuilder(text);
            houses.forEach(h -> s.houses.add(h.clone()));
            s.seen.addAll(seen);
            return s;
        }
    }

    static final class At {
        int picture, thing, floor, shoe, far;
    }

    State s = new State();
    final State[] images = new State[2];
    Ratio fraction = ZERO;
    final int[] status = new int[3];

    private int refuse(int as) {
        status[-2 - as]++;
        return as;
    }

    private static boolean in(long v, long a, long b) {
        return v >= a && v <= b;
    }

    private boolean isT(int t) {
        return in(t, 0, s.things.size() - 1);
    }

    private boolean isM(int m) {
        return in(m, 0, s.meanings.size() - 1);
    }

    int thing(int type, int fades) {
        if (!in(type, 0, 4) || !in(fades, 0, 9)) {
            return refuse(BAD);
        }
        if (s.things.size() == 10) {
            return refuse(FULL);
        }
        s.things.add(new int[] {type, fades, 0, 0, 0, 0, 0, 0});
        return s.things.size() - 1;
    }

    int level(int thing, int band, int v) {
        if (!isT(thing) || !in(band, 0, 5) || !in(v, 0, 99)) {
            return refuse(BAD);
        }
        int was = s.things.get(thing)[2 + band];
        s.things.get(thing)[2 + band] = v;
        return was;
    }

    int meaning(int worth) {
        if (!in(worth, 0, 99)) {
            return refuse(BAD);
        }
        if (s.meanings.size() == 6) {
            return refuse(FULL);
        }
        s.meanings.add(new int[] {worth, 0, 0, 0, 0, 0, 0});
        return s.meanings.size() - 1;
    }

    int want(int meaning, int band, int v) {
        if (!isM(meaning) || !in(band, 0, 5) || !in(v, 0, 799)) {
            return refuse(BAD);
        }
        int was = s.meanings.get(meaning)[1 + band];
        s.meanings.get(meaning)[1 + band] = v;
        return was;
    }

    int put(int what, int v) {
        int[] least = {0, 1, 1, 0, 0};
        int[] most = {2000, 9, 9, 99, 99};
        if (!in(what, 0, 4) || !in(v, least[what], most[what])) {
            return refuse(BAD);
        }
        int was = s.puts[what];
        s.puts[what] = v;
        return was;
    }

    // the five classes, each a function of the one it stands under

    private static int trueOf(int[] t, int band, int time) {
        return time == 0 ? t[2 + band] : trueOf(t, band, time - 1) * (10 - t[1]) / 10;
    }

    private static int stoodOf(int[] t, int band, int time) {
        return Math.min(99, trueOf(t, band, time) + (time % 2 == 1 ? 3 : 0));
    }

    private static int classOf(int[] t, int band, int time) {
        int plain = trueOf(t, band, time);
        return switch (t[0]) {
            case 0 -> plain;
            case 1 -> stoodOf(t, band, time);
            case 2 -> stoodOf(t, band, 7 - time);
            case 3 -> Math.min(99, plain * 2);
            default -> plain - band * plain / 8;
        };
    }

    private int v(int thing, int band, int time, int far) {
        return Math.max(0, classOf(s.things.get(thing), band, time) - far * (band + 1));
    }

    private int loudOf(int thing, int band, int far) {
        int all = 0;
        for (int t = 0; t < 8; t++) {
            all += v(thing, band, t, far);
        }
        return all;
    }

    private int like(int thing, int meaning, int far) {
        int off = 0;
        for (int b = 0; b < 6; b++) {
            off += Math.abs(loudOf(thing, b, far) - s.meanings.get(meaning)[1 + b]);
        }
        return Math.max(0, 1000 - off);
    }

    int value(int thing, int band, int time, int far) {
        return isT(thing) && in(band, 0, 5) && in(time, 0, 7) && in(far, 0, 9) ? v(thing, band, time, far) : refuse(BAD);
    }

    int loud(int thing, int band, int far) {
        return isT(thing) && in(band, 0, 5) && in(far, 0, 9) ? loudOf(thing, band, far) : refuse(BAD);
    }

    int likeness(int thing, int meaning, int far) {
        return isT(thing) && isM(meaning) && in(far, 0, 9) ? like(thing, meaning, far) : refuse(BAD);
    }

    /** The share, or null for NO. */
    private Ratio share(int thing, int meaning, int far, int seen, int late) {
        long part = 0;
        long all = 0;
        for (int m = 0; m < s.meanings.size(); m++) {
            int l = like(thing, m, far);
            if (m == seen && late >= 0 && late < s.puts[1]) {
                l += s.puts[0] * (s.puts[1] - late) / s.puts[1];
            }
            all += l;
            part += m == meaning ? l : 0;
        }
        return all == 0 ? null : Ratio.of(part, all);
    }

    private Ratio shut(int thing, int meaning) {
        return share(thing, meaning, 0, NONE, 0);
    }

    private Ratio shutOrZero(int thing, int meaning) {
        Ratio r = shut(thing, meaning);
        return r == null ? ZERO : r;
    }

    private int becomes(Ratio r) {
        if (r == null) {
            return refuse(NO);
        }
        fraction = r;
        return 1;
    }

    int taken(int thing, int meaning, int far, int seen, int late) {
        boolean sight = seen == NONE ? late == 0 : isM(seen) && in(late, -9, 9);
        if (!isT(thing) || !isM(meaning) || !in(far, 0, 9) || !sight) {
            return refuse(BAD);
        }
        return becomes(share(thing, meaning, far, seen, late));
    }

    /** Each hearer in turn takes it or does not. */
    private static Ratio atLeast(Ratio p, Ratio q, int n, int k) {
        Ratio[] chances = new Ratio[n + 1];
        java.util.Arrays.fill(chances, ZERO);
        chances[0] = ONE;
        for (int i = 0; i < n; i++) {
            for (int j = i + 1; j >= 0; j--) {
                chances[j] = chances[j].times(q).plus(j > 0 ? chances[j - 1].times(p) : ZERO);
            }
        }
        Ratio all = ZERO;
        for (int j = k; j <= n; j++) {
            all = all.plus(chances[j]);
        }
        return all;
    }

    int most(int thing, int meaning, int n, int k) {
        if (!isT(thing) || !isM(meaning) || !in(n, 1, 9) || !in(k, 0, n)) {
            return refuse(BAD);
        }
        Ratio p = shut(thing, meaning);
        return becomes(p == null ? null : atLeast(p, new Ratio(p.below.subtract(p.above), p.below), n, k));
    }

    int may(int thing, int meaning, int a, int b) {
        if (!isT(thing) || !isM(meaning) || a < 1 || b < a || b > 99) {
            refuse(BAD);
            return -10;
        }
        if (shut(thing, meaning) == null) {
            refuse(NO);
            return -20;
        }
        int greatest = NONE;
        for (int l = 0; l <= 9; l++) {
            if (share(thing, meaning, 0, meaning, l).compareTo(Ratio.of(a, b)) >= 0) {
                greatest = l;
            }
        }
        return greatest;
    }

    private int bestOf(int meaning) {
        int best = NONE;
        for (int t = s.things.size() - 1; t >= 0; t--) {
            if (best == NONE || shutOrZero(t, meaning).compareTo(shutOrZero(best, meaning)) >= 0) {
                best = t;
            }
        }
        return best;
    }

    int best(int meaning) {
        return isM(meaning) ? bestOf(meaning) : refuse(BAD);
    }

    int truer(int meaning, int one, int other) {
        if (!isM(meaning) || !isT(one) || !isT(other) || one == other) {
            return refuse(BAD);
        }
        return shutOrZero(one, meaning).compareTo(shutOrZero(other, meaning)) >= 0 ? one : other;
    }

    private int servesOf(int things, int meaning) {
        int most = 0;
        for (int t = 0; t < s.things.size(); t++) {
            if ((things & 1 << t) != 0) {
                Ratio r = shutOrZero(t, meaning);
                most = Math.max(most, r.above.multiply(BigInteger.valueOf(1000)).divide(r.below).intValue());
            }
        }
        return most;
    }

    int serves(int things, int meaning) {
        return in(things, 0, (1 << s.things.size()) - 1) && isM(meaning) ? servesOf(things, meaning) : refuse(BAD);
    }

    int cupboard(int k) {
        if (!in(k, 0, s.things.size())) {
            return refuse(BAD);
        }
        int[][] one = new int[10][6];
        for (int t = 0; t < s.things.size(); t++) {
            for (int m = 0; m < s.meanings.size(); m++) {
                one[t][m] = servesOf(1 << t, m);
            }
        }
        int best = 0;
        long most = -1;
        for (int bits = 0; bits < 1 << s.things.size(); bits++) {
            if (Integer.bitCount(bits) == k) {
                long all = 0;
                for (int m = 0; m < s.meanings.size(); m++) {
                    int serves = 0;
                    for (int t = 0; t < s.things.size(); t++) {
                        serves = (bits & 1 << t) != 0 ? Math.max(serves, one[t][m]) : serves;
                    }
                    all += (long) s.meanings.get(m)[0] * serves;
                }
                if (all > most) {
                    most = all;
                    best = bits;
                }
            }
        }
        return best;
    }

    int words() {
        int bits = 0;
        for (int m = 0; m < s.meanings.size(); m++) {
            int b = bestOf(m);
            boolean word = b == NONE || shut(b, m) == null;
            for (int o = 0; o < s.meanings.size() && !word; o++) {
                word = o != m && shut(b, o).compareTo(shut(b, m)) >= 0;
            }
            bits |= word ? 1 << m : 0;
        }
        return bits;
    }

    int beast(int meaning) {
        if (!isM(meaning)) {
            return refuse(BAD);
        }
        if (s.things.size() < 3) {
            return refuse(NO);
        }
        int answer = NONE;
        int least = Integer.MAX_VALUE;
        for (int code = 0; code < 1000; code++) {
            int a = code / 100;
            int b = code / 10 % 10;
            int c = code % 10;
            if (a < b && b < c && isT(c)) {
                int off = 0;
                for (int band = 0; band < 6; band++) {
                    int all = Math.min(799, loudOf(a, band, 0) + loudOf(b, band, 0) + loudOf(c, band, 0));
                    off += Math.abs(all - s.meanings.get(meaning)[1 + band]);
                }
                if (off < least) {
                    least = off;
                    answer = code;
                }
            }
        }
        return answer;
    }

    // the reel

    int type(long v, int n) {
        if (!in(n, 1, 8)) {
            return refuse(BAD);
        }
        if (s.text.length() + n > 200) {
            return refuse(FULL);
        }
        for (int i = 0; i < n; i++) {
            s.text.append((char) (v >> 8 * (n - 1 - i) & 0xff));
        }
        return s.text.length();
    }

    int clear() {
        int had = s.text.length();
        s.text.setLength(0);
        return had;
    }

    private static final Pattern TOKEN = Pattern.compile("[a-z]+|[0-9]+|[^ ]", Pattern.DOTALL);

    /** Fills the list; answers FAULT. */
    private int read(List<At> ats) {
        Matcher tokens = TOKEN.matcher(s.text);
        int far = 0;
        while (tokens.find()) {
            String word = tokens.group();
            IntPredicate[] numbers;
            int[] got = new int[4];
            int ahead = ats.isEmpty() ? 0 : ats.get(ats.size() - 1).picture;
            if (word.equals("at") && ats.size() < 8) {
                IntPredicate ten = n -> n <= 9;
                numbers = new IntPredicate[] {n -> n >= ahead, this::isT, ten, ten};
            } else if (word.equals("far")) {
                numbers = new IntPredicate[] {n -> n <= 9};
            } else {
                return tokens.start();
            }
            for (int i = 0; i < numbers.length; i++) {
                if (!tokens.find()) {
                    return s.text.length();
                }
                if (!tokens.group().matches("[0-9]{1,3}") || !numbers[i].test(Integer.parseInt(tokens.group()))) {
                    return tokens.start();
                }
                got[i] = Integer.parseInt(tokens.group());
            }
            if (!tokens.find()) {
                return s.text.length();
            }
            if (!tokens.group().equals(";")) {
                return tokens.start();
            }
            if (word.equals("far")) {
                far = got[0];
            } else {
                At at = new At();
                at.picture = got[0];
                at.thing = got[1];
                at.floor = got[2];
                at.shoe = got[3];
                at.far = far;
                ats.add(at);
            }
        }
        return NONE;
    }

    int fault() {
        return read(new ArrayList<>());
    }

    private List<At> reel() {
        List<At> ats = new ArrayList<>();
        return read(ats) == NONE ? ats : null;
    }

    int places() {
        List<At> ats = reel();
        return ats == null ? refuse(NO) : ats.size();
    }

    private boolean isHidden(List<At> ats, int place, int by) {
        At own = ats.get(place);
        for (int picture = own.picture; picture <= own.picture + 7; picture++) {
            for (int band = 0; band < 6; band++) {
                int mine = there(own, picture, band);
                int theirs = 0;
                for (int o = 0; o < ats.size(); o++) {
                    if (o != place && (by & 1 << o) != 0) {
                        theirs += there(ats.get(o), picture, band);
                    }
                }
                if (mine > 0 && mine * s.puts[2] > theirs) {
                    return false;
                }
            }
        }
        return true;
    }

    private int there(At at, int picture, int band) {
        return in(picture - at.picture, 0, 7) ? v(at.thing, band, picture - at.picture, at.far) : 0;
    }

    int hidden(int place, int places) {
        List<At> ats = reel();
        if (ats == null) {
            return refuse(NO);
        }
        if (!in(place, 0, ats.size() - 1) || !in(places, 0, (1 << ats.size()) - 1)) {
            return refuse(BAD);
        }
        return isHidden(ats, place, places) ? 1 : 0;
    }

    int unheard() {
        List<At> ats = reel();
        if (ats == null) {
            return refuse(NO);
        }
        int bits = 0;
        for (int i = 0; i < ats.size(); i++) {
            bits |= isHidden(ats, i, (1 << ats.size()) - 1 - (1 << i)) ? 1 << i : 0;
        }
        return bits;
    }

    int kept() {
        List<At> ats = reel();
        if (ats == null) {
            return refuse(NO);
        }
        for (int size = 0; size <= ats.size(); size++) {
            for (int bits = 0; bits < 1 << ats.size(); bits++) {
                boolean good = Integer.bitCount(bits) == size;
                for (int i = 0; i < ats.size() && good; i++) {
                    good = (bits & 1 << i) != 0 || isHidden(ats, i, bits);
                }
                if (good) {
                    return bits;
                }
            }
        }
        throw new IllegalStateException("all places keep themselves");
    }

    private int step(At a, At b) {
        return (a.floor != b.floor ? s.puts[3] : 0) + (a.shoe != b.shoe ? s.puts[4] : 0);
    }

    private int least;
    private List<Integer> first;

    /** All orders of the places, the first ones first. */
    private void orders(List<At> ats, int left, List<Integer> made, int seconds) {
        if (left == 0 && seconds < least) {
            least = seconds;
            first = new ArrayList<>(made);
        }
        for (int i = 0; i < ats.size(); i++) {
            if ((left & 1 << i) != 0) {
                int more = made.isEmpty() ? 0 : step(ats.get(made.get(made.size() - 1)), ats.get(i));
                made.add(i);
                orders(ats, left & ~(1 << i), made, seconds + more);
                made.remove(made.size() - 1);
            }
        }
    }

    private int secondsOf(List<At> ats, int places) {
        least = Integer.MAX_VALUE;
        orders(ats, places, new ArrayList<>(), 0);
        return least;
    }

    int order(int i) {
        List<At> ats = reel();
        if (ats == null) {
            return refuse(NO);
        }
        if (i < -1) {
            return refuse(BAD);
        }
        int seconds = secondsOf(ats, (1 << ats.size()) - 1);
        if (i == NONE) {
            return seconds;
        }
        return i < first.size() ? first.get(i) : -5;
    }

    int hands(int what) {
        List<At> ats = reel();
        if (ats == null) {
            return refuse(NO);
        }
        if (what != 0 && what != 1) {
            return refuse(BAD);
        }
        int all = (1 << ats.size()) - 1;
        int[] seconds = new int[all + 1];
        for (int bits = 0; bits <= all; bits++) {
            seconds[bits] = secondsOf(ats, bits);
        }
        int split = 0;
        for (int bits = 1; bits <= all; bits++) {
            if (Math.max(seconds[bits], seconds[all - bits]) < Math.max(seconds[split], seconds[all - split])) {
                split = bits;
            }
        }
        return what == 1 ? split : Math.max(seconds[split], seconds[all - split]);
    }

    // walkers, houses

    private static int[] lags(int first, int learn, int bar, int slip) {
        if (!in(first, 0, 99) || !in(learn, 1, 9) || !in(bar, 1, 9) || !in(slip, 0, 20)) {
            return null;
        }
        int[] lags = new int[40];
        int now = first;
        for (int i = 0; i < 40; i++) {
            lags[i] = now;
            now -= now / learn;
            if (i % bar == 0) {
                now += slip;
            }
        }
        return lags;
    }

    int lag(int first, int learn, int bar, int slip, int step) {
        int[] lags = lags(first, learn, bar, slip);
        return lags == null || !in(step, 0, 39) ? refuse(BAD) : lags[step];
    }

    int mended(int first, int learn, int bar, int slip, int n, int tenths) {
        int[] lags = lags(first, learn, bar, slip);
        if (lags == null || !in(n, 1, 40) || !in(tenths, 0, 99)) {
            return refuse(BAD);
        }
        int more = 0;
        for (int i = 0; i < n; i++) {
            more += lags[i] > tenths ? 1 : 0;
        }
        return more;
    }

    int steady(int first, int learn, int bar, int slip, int tenths) {
        int[] lags = lags(first, learn, bar, slip);
        if (lags == null || !in(tenths, 0, 99)) {
            return refuse(BAD);
        }
        int from = 40;
        while (from > 0 && lags[from - 1] <= tenths) {
            from--;
        }
        return from == 40 ? NONE : from;
    }

    int house() {
        if (s.houses.size() == 4) {
            return refuse(FULL);
        }
        int[] habits = new int[10];
        java.util.Arrays.fill(habits, 1);
        s.houses.add(habits);
        return s.houses.size() - 1;
    }

    int habit(int house, int thing, int v) {
        if (!in(house, 0, s.houses.size() - 1) || !in(thing, 0, 9) || !in(v, 0, 9)) {
            return refuse(BAD);
        }
        int was = s.houses.get(house)[thing];
        s.houses.get(house)[thing] = v;
        return was;
    }

    int see(int thing) {
        if (!in(thing, 0, 9)) {
            return refuse(BAD);
        }
        if (s.seen.size() == 8) {
            return refuse(FULL);
        }
        s.seen.add(thing);
        return s.seen.size();
    }

    int forget() {
        int had = s.seen.size();
        s.seen.clear();
        return had;
    }

    int whose(int house) {
        if (!in(house, 0, s.houses.size() - 1)) {
            return refuse(BAD);
        }
        Ratio own = ZERO;
        Ratio all = ZERO;
        for (int h = 0; h < s.houses.size(); h++) {
            Ratio chance = ONE;
            int ten = java.util.Arrays.stream(s.houses.get(h)).sum();
            for (int t : s.seen) {
                chance = ten == 0 ? ZERO : chance.times(Ratio.of(s.houses.get(h)[t], ten));
            }
            all = all.plus(chance);
            own = h == house ? chance : own;
        }
        return becomes(all.isZero() ? null : own.by(all));
    }

    // what there is

    private static List<Integer> limbs(BigInteger v) {
        List<Integer> limbs = new ArrayList<>();
        for (BigInteger rest = v; rest.signum() > 0; rest = rest.shiftRight(30)) {
            limbs.add(rest.mod(BigInteger.ONE.shiftLeft(30)).intValue());
        }
        return limbs;
    }

    int sign(int what) {
        return switch (what) {
            case 0 -> fraction.above.signum();
            case 1 -> limbs(fraction.above).size();
            case 2 -> limbs(fraction.below).size();
            default -> refuse(BAD);
        };
    }

    int limb(int which, int i) {
        if (which != 0 && which != 1 || i < 0) {
            return refuse(BAD);
        }
        List<Integer> limbs = limbs(which == 0 ? fraction.above : fraction.below);
        return i < limbs.size() ? limbs.get(i) : NONE;
    }

    int image(int i) {
        if (i != 0 && i != 1) {
            return refuse(BAD);
        }
        images[i] = s.copy();
        return 1;
    }

    int from(int i) {
        if (i != 0 && i != 1) {
            return refuse(BAD);
        }
        if (images[i] == null) {
            return refuse(NO);
        }
        s = images[i].copy();
        return 1;
    }

    int status(int what) {
        if (what < 0 || what > 2) {
            refuse(BAD);
            return -1;
        }
        return status[what];
    }

    private int[] counts() {
        return new int[] {s.things.size(), s.meanings.size(), s.text.length(), s.houses.size(), s.seen.size()};
    }

    int count(int what) {
        return what < 0 || what > 4 ? refuse(BAD) : counts()[what];
    }

    long digest() {
        List<Integer> all = new ArrayList<>();
        for (int v : counts()) {
            all.add(v);
        }
        for (List<int[]> rows : List.of(s.things, s.meanings, List.of(s.puts))) {
            for (int[] row : rows) {
                for (int v : row) {
                    all.add(v);
                }
            }
        }
        s.text.chars().forEach(all::add);
        for (int[] row : s.houses) {
            for (int v : row) {
                all.add(v);
            }
        }
        all.addAll(s.seen);
        all.add(fraction.above.signum());
        all.add(limbs(fraction.above).size());
        all.add(limbs(fraction.below).size());
        all.addAll(limbs(fraction.above));
        all.addAll(limbs(fraction.below));
        long h = 593;
        for (int v : all) {
            h = 31 * h + v;
        }
        return h;
    }
}
