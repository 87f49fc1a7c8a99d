/** Noises for a film: what the document of the project promises, in the Java that LANGUAGE.md leaves. */
public final class FilmNoises {
    public static final int NONE = -1, BAD = -2, NO = -3, FULL = -4;

    private static final int ORDER_ENDS = -5, MAY_BAD = -10, MAY_NO = -20;
    private static final int THINGS = 10, BANDS = 6, TIMES = 8, MEANINGS = 6;
    private static final int CLASSES = 5, MOST_FADES = 9, MOST_LEVEL = 99, MOST_WORTH = 99, MOST_LOUD = 799;
    private static final int MOST_FAR = 9, MOST_LATE = 9, MOST_HEARERS = 9, MOST_LIKENESS = 1000;
    private static final int EYES = 0, WITHIN = 1, MASK = 2, FLOOR = 3, SHOE = 4, PUTS = 5;
    private static final int REEL_BYTES = 200, TYPED_BYTES = 8, PLACES = 8, MOST_PICTURE = 999;
    private static final int STEPS = 40, MOST_LAG = 99, HOUSES = 4, SEEN = 8, MOST_HABIT = 9, IMAGES = 2;
    /** More than any sum of distances or seconds here. */
    private static final int ENDLESS = 1000000;

    private final Film film = new Film();
    private final Film imageZero = new Film();
    private final Film imageOne = new Film();
    private boolean hasImageZero;
    private boolean hasImageOne;
    private final Fraction fraction = new Fraction();
    private final Ears ears = new Ears();
    private final Reel reel = new Reel();
    private final Hiding hiding = new Hiding();
    private final Trips trips = new Trips();
    private int refusedBad;
    private int refusedNo;
    private int refusedFull;

    public FilmNoises() {
    }

    // ---- things, meanings

    public int thing(int type, int fades) {
        if (!fits(type, 0, CLASSES - 1) || !fits(fades, 0, MOST_FADES)) {
            return refuseBad();
        }
        if (film.thingCount >= THINGS) {
            return refuseFull();
        }
        return film.addThing(type, fades);
    }

    public int level(int thing, int band, int v) {
        if (!isThing(thing) || !isBand(band) || !fits(v, 0, MOST_LEVEL)) {
            return refuseBad();
        }
        return exchange(film.levels, thing * BANDS + band, v);
    }

    public int meaning(int worth) {
        if (!fits(worth, 0, MOST_WORTH)) {
            return refuseBad();
        }
        if (film.meaningCount >= MEANINGS) {
            return refuseFull();
        }
        return film.addMeaning(worth);
    }

    public int want(int meaning, int band, int v) {
        if (!isMeaning(meaning) || !isBand(band) || !fits(v, 0, MOST_LOUD)) {
            return refuseBad();
        }
        return exchange(film.wants, meaning * BANDS + band, v);
    }

    public int put(int what, int v) {
        if (!fits(what, 0, PUTS - 1) || !fits(v, leastPut(what), greatestPut(what))) {
            return refuseBad();
        }
        return exchange(film.puts, what, v);
    }

    public int value(int thing, int band, int time, int far) {
        if (!isThing(thing) || !isBand(band) || !fits(time, 0, TIMES - 1) || !fits(far, 0, MOST_FAR)) {
            return refuseBad();
        }
        return Sounds.heard(film, thing, band, time, far);
    }

    public int loud(int thing, int band, int far) {
        if (!isThing(thing) || !isBand(band) || !fits(far, 0, MOST_FAR)) {
            return refuseBad();
        }
        return Sounds.together(film, thing, band, far);
    }

    public int likeness(int thing, int meaning, int far) {
        if (!isThing(thing) || !isMeaning(meaning) || !fits(far, 0, MOST_FAR)) {
            return refuseBad();
        }
        ears.hear(film, thing, far);
        return ears.like(thing, meaning);
    }

    public int taken(int thing, int meaning, int far, int seen, int late) {
        if (!isThing(thing) || !isMeaning(meaning) || !fits(far, 0, MOST_FAR) || !isSight(seen, late)) {
            return refuseBad();
        }
        ears.hear(film, thing, far);
        int bonus = seen == NONE ? 0 : Ears.bonus(film, late);
        int all = ears.total(thing) + bonus;
        if (all <= 0) {
            return refuseNo();
        }
        fraction.becomeShare(ears.like(thing, meaning) + (seen == meaning ? bonus : 0), all);
        return 1;
    }

    public int most(int thing, int meaning, int n, int k) {
        if (!isThing(thing) || !isMeaning(meaning) || !fits(n, 1, MOST_HEARERS) || !fits(k, 0, n)) {
            return refuseBad();
        }
        ears.hear(film, thing, 0);
        if (ears.total(thing) <= 0) {
            return refuseNo();
        }
        fraction.becomeMost(ears.like(thing, meaning), ears.total(thing), n, k);
        return 1;
    }

    public int may(int thing, int meaning, int a, int b) {
        if (!isThing(thing) || !isMeaning(meaning) || !fits(b, 1, 99) || !fits(a, 1, b)) {
            refuseBad();
            return MAY_BAD;
        }
        ears.hear(film, thing, 0);
        if (ears.total(thing) <= 0) {
            refuseNo();
            return MAY_NO;
        }
        return ears.latest(film, thing, meaning, a, b);
    }

    public int best(int meaning) {
        if (!isMeaning(meaning)) {
            return refuseBad();
        }
        ears.hearAll(film);
        return ears.bestFor(film, meaning);
    }

    public int truer(int meaning, int one, int other) {
        if (!isMeaning(meaning) || !isThing(one) || !isThing(other) || one == other) {
            return refuseBad();
        }
        ears.hear(film, one, 0);
        ears.hear(film, other, 0);
        return ears.isTruer(meaning, other, one) ? other : one;
    }

    public int serves(int things, int meaning) {
        if (!areBits(things, film.thingCount) || !isMeaning(meaning)) {
            return refuseBad();
        }
        ears.hearAll(film);
        return ears.service(film, things, meaning);
    }

    public int cupboard(int k) {
        if (!fits(k, 0, film.thingCount)) {
            return refuseBad();
        }
        ears.hearAll(film);
        return ears.worthiest(film, k);
    }

    public int words() {
        ears.hearAll(film);
        return ears.unclear(film);
    }

    public int beast(int meaning) {
        if (!isMeaning(meaning)) {
            return refuseBad();
        }
        if (film.thingCount < 3) {
            return refuseNo();
        }
        ears.hearAll(film);
        return ears.nearestThree(film, meaning);
    }

    // ---- reels

    public int type(long v, int n) {
        if (!fits(n, 1, TYPED_BYTES)) {
            return refuseBad();
        }
        if (film.typed + n > REEL_BYTES) {
            return refuseFull();
        }
        return film.addBytes(v, n);
    }

    public int clear() {
        int had = film.typed;
        film.typed = 0;
        return had;
    }

    public int fault() {
        reel.read(film);
        return reel.faultAt;
    }

    public int places() {
        return readsReel() ? reel.placeCount : refuseNo();
    }

    public int hidden(int place, int places) {
        if (!readsReel()) {
            return refuseNo();
        }
        if (!fits(place, 0, reel.placeCount - 1) || !areBits(places, reel.placeCount)) {
            return refuseBad();
        }
        hiding.listen(film, reel);
        return hiding.isHidden(place, places) ? 1 : 0;
    }

    public int unheard() {
        if (!readsReel()) {
            return refuseNo();
        }
        hiding.listen(film, reel);
        return hiding.hiddenByOthers();
    }

    public int kept() {
        if (!readsReel()) {
            return refuseNo();
        }
        hiding.listen(film, reel);
        return hiding.fewestHiders();
    }

    public int order(int i) {
        if (!readsReel()) {
            return refuseNo();
        }
        if (i < NONE) {
            return refuseBad();
        }
        if (i >= reel.placeCount) {
            return ORDER_ENDS;
        }
        trips.plan(film, reel);
        return i == NONE ? trips.seconds(trips.all()) : trips.placeInOrder(i);
    }

    public int hands(int what) {
        if (!readsReel()) {
            return refuseNo();
        }
        if (!fits(what, 0, 1)) {
            return refuseBad();
        }
        trips.plan(film, reel);
        int split = trips.split();
        return what == 1 ? split : trips.greaterOfTwo(split);
    }

    // ---- walkers, houses

    public int lag(int first, int learn, int bar, int slip, int step) {
        if (!isWalker(first, learn, bar, slip) || !fits(step, 0, STEPS - 1)) {
            return refuseBad();
        }
        int lag = first;
        for (int s = 0; s < step; s++) {
            lag = lagBehind(lag, learn, bar, slip, s);
        }
        return lag;
    }

    public int mended(int first, int learn, int bar, int slip, int n, int tenths) {
        if (!isWalker(first, learn, bar, slip) || !fits(n, 1, STEPS) || !fits(tenths, 0, MOST_LAG)) {
            return refuseBad();
        }
        int lag = first;
        int more = 0;
        for (int s = 0; s < n; s++) {
            if (lag > tenths) {
                more++;
            }
            lag = lagBehind(lag, learn, bar, slip, s);
        }
        return more;
    }

    public int steady(int first, int learn, int bar, int slip, int tenths) {
        if (!isWalker(first, learn, bar, slip) || !fits(tenths, 0, MOST_LAG)) {
            return refuseBad();
        }
        int lag = first;
        int from = 0;
        for (int s = 0; s < STEPS; s++) {
            if (lag > tenths) {
                from = s + 1;
            }
            lag = lagBehind(lag, learn, bar, slip, s);
        }
        return from < STEPS ? from : NONE;
    }

    public int house() {
        if (film.houseCount >= HOUSES) {
            return refuseFull();
        }
        return film.addHouse();
    }

    public int habit(int house, int thing, int v) {
        if (!isHouse(house) || !fits(thing, 0, THINGS - 1) || !fits(v, 0, MOST_HABIT)) {
            return refuseBad();
        }
        return exchange(film.habits, house * THINGS + thing, v);
    }

    public int see(int thing) {
        if (!fits(thing, 0, THINGS - 1)) {
            return refuseBad();
        }
        if (film.seenCount >= SEEN) {
            return refuseFull();
        }
        return film.addSeen(thing);
    }

    public int forget() {
        int had = film.seenCount;
        film.seenCount = 0;
        return had;
    }

    public int whose(int house) {
        if (!isHouse(house)) {
            return refuseBad();
        }
        if (!film.canBeOfAHouse()) {
            return refuseNo();
        }
        fraction.becomeHouse(film, house);
        return 1;
    }

    // ---- what there is

    public int sign(int what) {
        if (!fits(what, 0, 2)) {
            return refuseBad();
        }
        if (what == 0) {
            return fraction.above.size > 0 ? 1 : 0;
        }
        return what == 1 ? fraction.above.size : fraction.below.size;
    }

    public int limb(int which, int i) {
        if (!fits(which, 0, 1) || i < 0) {
            return refuseBad();
        }
        Limbs limbs = which == 0 ? fraction.above : fraction.below;
        return i < limbs.size ? look(limbs.digits, i) : NONE;
    }

    public int image(int i) {
        if (!fits(i, 0, IMAGES - 1)) {
            return refuseBad();
        }
        if (i == 0) {
            imageZero.become(film);
            hasImageZero = true;
        } else {
            imageOne.become(film);
            hasImageOne = true;
        }
        return 1;
    }

    public int from(int i) {
        if (!fits(i, 0, IMAGES - 1)) {
            return refuseBad();
        }
        if (i == 0 ? !hasImageZero : !hasImageOne) {
            return refuseNo();
        }
        film.become(i == 0 ? imageZero : imageOne);
        return 1;
    }

    public int status(int what) {
        switch (what) {
            case 0:
                return refusedBad;
            case 1:
                return refusedNo;
            case 2:
                return refusedFull;
            default:
                refuseBad();
                return NONE;
        }
    }

    public int count(int what) {
        switch (what) {
            case 0:
                return film.thingCount;
            case 1:
                return film.meaningCount;
            case 2:
                return film.typed;
            case 3:
                return film.houseCount;
            case 4:
                return film.seenCount;
            default:
                return refuseBad();
        }
    }

    public long digest() {
        return fraction.digestOn(film.digestOn(593));
    }

    // ---- refusals

    private int refuseBad() {
        refusedBad++;
        return BAD;
    }

    private int refuseNo() {
        refusedNo++;
        return NO;
    }

    private int refuseFull() {
        refusedFull++;
        return FULL;
    }

    // ---- what is told

    private static boolean fits(int v, int least, int greatest) {
        return v >= least && v <= greatest;
    }

    private static boolean areBits(int bits, int count) {
        return bits >= 0 && bits < 1 << count;
    }

    private static boolean isBand(int band) {
        return fits(band, 0, BANDS - 1);
    }

    private boolean isThing(int thing) {
        return fits(thing, 0, film.thingCount - 1);
    }

    private boolean isMeaning(int meaning) {
        return fits(meaning, 0, film.meaningCount - 1);
    }

    private boolean isHouse(int house) {
        return fits(house, 0, film.houseCount - 1);
    }

    private boolean isSight(int seen, int late) {
        return seen == NONE ? late == 0 : isMeaning(seen) && fits(late, -MOST_LATE, MOST_LATE);
    }

    private static boolean isWalker(int first, int learn, int bar, int slip) {
        return fits(first, 0, MOST_LAG) && fits(learn, 1, 9) && fits(bar, 1, 9) && fits(slip, 0, 20);
    }

    private static int leastPut(int what) {
        return what == WITHIN || what == MASK ? 1 : 0;
    }

    private static int greatestPut(int what) {
        if (what == EYES) {
            return 2000;
        }
        return what == WITHIN || what == MASK ? 9 : 99;
    }

    /** Whether the reel's text has no fault; the reel has been read behind it. */
    private boolean readsReel() {
        reel.read(film);
        return reel.faultAt == NONE;
    }

    /** The lag behind a step, from the one ahead of it. */
    private static int lagBehind(int lag, int learn, int bar, int slip, int step) {
        if (learn < 1 || bar < 1) {
            return lag;
        }
        return lag - lag / learn + (step % bar == 0 ? slip : 0);
    }

    // ---- rows: every index is looked at here before it is used

    private static int look(int[] row, int i) {
        return i >= 0 && i < row.length ? row[i] : 0;
    }

    private static void lay(int[] row, int i, int v) {
        if (i >= 0 && i < row.length) {
            row[i] = v;
        }
    }

    private static int exchange(int[] row, int i, int v) {
        int was = look(row, i);
        lay(row, i, v);
        return was;
    }

    private static void copyRow(int[] one, int[] other) {
        for (int i = 0; i < one.length && i < other.length; i++) {
            other[i] = one[i];
        }
    }

    private static long digestRow(long h, int[] row, int start, int count) {
        long all = h;
        for (int i = start; i < start + count; i++) {
            all = 31 * all + look(row, i);
        }
        return all;
    }

    /** All that an image keeps. */
    private static final class Film {
        int thingCount;
        final int[] classes = new int[THINGS];
        final int[] fadings = new int[THINGS];
        final int[] levels = new int[THINGS * BANDS];
        int meaningCount;
        final int[] worths = new int[MEANINGS];
        final int[] wants = new int[MEANINGS * BANDS];
        final int[] puts = {500, 3, 3, 20, 30};
        int typed;
        final int[] text = new int[REEL_BYTES];
        int houseCount;
        final int[] habits = new int[HOUSES * THINGS];
        int seenCount;
        final int[] seen = new int[SEEN];

        int addThing(int type, int fades) {
            lay(classes, thingCount, type);
            lay(fadings, thingCount, fades);
            return thingCount++;
        }

        int addMeaning(int worth) {
            lay(worths, meaningCount, worth);
            return meaningCount++;
        }

        int addBytes(long v, int n) {
            for (int i = n - 1; i >= 0; i--) {
                lay(text, typed++, (int) (v >>> 8 * i) & 255);
            }
            return typed;
        }

        int addHouse() {
            for (int thing = 0; thing < THINGS; thing++) {
                lay(habits, houseCount * THINGS + thing, 1);
            }
            return houseCount++;
        }

        int addSeen(int thing) {
            lay(seen, seenCount++, thing);
            return seenCount;
        }

        int habitOf(int house, int thing) {
            return look(habits, house * THINGS + thing);
        }

        int habitsOf(int house) {
            int all = 0;
            for (int thing = 0; thing < THINGS; thing++) {
                all += habitOf(house, thing);
            }
            return all;
        }

        boolean canBeOfAHouse() {
            for (int house = 0; house < houseCount; house++) {
                if (canBeOf(house)) {
                    return true;
                }
            }
            return false;
        }

        boolean canBeOf(int house) {
            for (int i = 0; i < seenCount; i++) {
                if (habitOf(house, look(seen, i)) == 0) {
                    return false;
                }
            }
            return true;
        }

        void become(Film other) {
            thingCount = other.thingCount;
            copyRow(other.classes, classes);
            copyRow(other.fadings, fadings);
            copyRow(other.levels, levels);
            meaningCount = other.meaningCount;
            copyRow(other.worths, worths);
            copyRow(other.wants, wants);
            copyRow(other.puts, puts);
            typed = other.typed;
            copyRow(other.text, text);
            houseCount = other.houseCount;
            copyRow(other.habits, habits);
            seenCount = other.seenCount;
            copyRow(other.seen, seen);
        }

        long digestOn(long start) {
            long h = start;
            h = 31 * h + thingCount;
            h = 31 * h + meaningCount;
            h = 31 * h + typed;
            h = 31 * h + houseCount;
            h = 31 * h + seenCount;
            for (int thing = 0; thing < thingCount; thing++) {
                h = 31 * h + look(classes, thing);
                h = 31 * h + look(fadings, thing);
                h = digestRow(h, levels, thing * BANDS, BANDS);
            }
            for (int meaning = 0; meaning < meaningCount; meaning++) {
                h = 31 * h + look(worths, meaning);
                h = digestRow(h, wants, meaning * BANDS, BANDS);
            }
            h = digestRow(h, puts, 0, PUTS);
            h = digestRow(h, text, 0, typed);
            h = digestRow(h, habits, 0, houseCount * THINGS);
            return digestRow(h, seen, 0, seenCount);
        }
    }

    /** What a thing sounds like, by its class. */
    private static final class Sounds {
        static final int STOOD = 1, MADE = 2, SHARED = 3, WOOLED = 4;

        static int heard(Film film, int thing, int band, int time, int far) {
            int kind = look(film.classes, thing);
            int told = kind == MADE ? TIMES - 1 - time : time;
            int level = look(film.levels, thing * BANDS + band);
            int plain = fading(level, look(film.fadings, thing), told);
            return Math.max(0, ofClass(kind, plain, band, told) - far * (band + 1));
        }

        static int fading(int level, int fades, int time) {
            int v = level;
            for (int t = 0; t < time; t++) {
                v = v * (10 - fades) / 10;
            }
            return v;
        }

        static int ofClass(int kind, int plain, int band, int time) {
            switch (kind) {
                case STOOD:
                case MADE:
                    return Math.min(MOST_LEVEL, plain + 3 * (time % 2));
                case SHARED:
                    return Math.min(MOST_LEVEL, 2 * plain);
                case WOOLED:
                    return plain - band * plain / 8;
                default:
                    return plain;
            }
        }

        static int together(Film film, int thing, int band, int far) {
            int all = 0;
            for (int time = 0; time < TIMES; time++) {
                all += heard(film, thing, band, time, far);
            }
            return all;
        }
    }

    /** How like things are to meanings, and what follows of it; things must be heard before they are asked for. */
    private static final class Ears {
        final int[] louds = new int[THINGS * BANDS];
        final int[] likes = new int[THINGS * MEANINGS];
        final int[] totals = new int[THINGS];

        void hearAll(Film film) {
            for (int thing = 0; thing < film.thingCount; thing++) {
                hear(film, thing, 0);
            }
        }

        void hear(Film film, int thing, int far) {
            for (int band = 0; band < BANDS; band++) {
                lay(louds, thing * BANDS + band, Sounds.together(film, thing, band, far));
            }
            int total = 0;
            for (int meaning = 0; meaning < film.meaningCount; meaning++) {
                int like = likenessOf(film, thing, meaning);
                lay(likes, thing * MEANINGS + meaning, like);
                total += like;
            }
            lay(totals, thing, total);
        }

        int likenessOf(Film film, int thing, int meaning) {
            int far = 0;
            for (int band = 0; band < BANDS; band++) {
                far += Math.abs(loudOf(thing, band) - look(film.wants, meaning * BANDS + band));
            }
            return Math.max(0, MOST_LIKENESS - far);
        }

        int loudOf(int thing, int band) {
            return look(louds, thing * BANDS + band);
        }

        int like(int thing, int meaning) {
            return look(likes, thing * MEANINGS + meaning);
        }

        int total(int thing) {
            return look(totals, thing);
        }

        /** What seeing a meaning so late adds to its likeness. */
        static int bonus(Film film, int late) {
            int within = look(film.puts, WITHIN);
            if (within < 1 || late < 0 || late >= within) {
                return 0;
            }
            return look(film.puts, EYES) * (within - late) / within;
        }

        int latest(Film film, int thing, int meaning, int a, int b) {
            for (int late = MOST_LATE; late >= 0; late--) {
                int bonus = bonus(film, late);
                if ((like(thing, meaning) + bonus) * b >= a * (total(thing) + bonus)) {
                    return late;
                }
            }
            return NONE;
        }

        /** Whether one's share of the meaning is the greater; a thing whose total is 0 has no likeness, so by 1 it is 0. */
        boolean isTruer(int meaning, int one, int other) {
            return like(one, meaning) * Math.max(1, total(other)) > like(other, meaning) * Math.max(1, total(one));
        }

        int bestFor(Film film, int meaning) {
            int best = NONE;
            for (int thing = 0; thing < film.thingCount; thing++) {
                if (best == NONE || isTruer(meaning, thing, best)) {
                    best = thing;
                }
            }
            return best;
        }

        int thousandths(int thing, int meaning) {
            int total = total(thing);
            return total < 1 ? 0 : 1000 * like(thing, meaning) / total;
        }

        int service(Film film, int things, int meaning) {
            int most = 0;
            for (int thing = 0; thing < film.thingCount; thing++) {
                if ((things >> thing & 1) == 1) {
                    most = Math.max(most, thousandths(thing, meaning));
                }
            }
            return most;
        }

        int worthiest(Film film, int k) {
            int best = 0;
            int bestWorth = NONE;
            for (int things = 0; things < 1 << film.thingCount; things++) {
                if (Integer.bitCount(things) == k) {
                    int worth = worthOf(film, things);
                    if (worth > bestWorth) {
                        best = things;
                        bestWorth = worth;
                    }
                }
            }
            return best;
        }

        int worthOf(Film film, int things) {
            int all = 0;
            for (int meaning = 0; meaning < film.meaningCount; meaning++) {
                all += look(film.worths, meaning) * service(film, things, meaning);
            }
            return all;
        }

        int unclear(Film film) {
            int bits = 0;
            for (int meaning = 0; meaning < film.meaningCount; meaning++) {
                if (!isClear(film, meaning)) {
                    bits |= 1 << meaning;
                }
            }
            return bits;
        }

        boolean isClear(Film film, int meaning) {
            int best = bestFor(film, meaning);
            if (best == NONE || total(best) < 1) {
                return false;
            }
            for (int other = 0; other < film.meaningCount; other++) {
                if (other != meaning && like(best, other) >= like(best, meaning)) {
                    return false;
                }
            }
            return true;
        }

        int nearestThree(Film film, int meaning) {
            int best = 0;
            int least = ENDLESS;
            for (int one = 0; one < film.thingCount; one++) {
                for (int two = one + 1; two < film.thingCount; two++) {
                    for (int three = two + 1; three < film.thingCount; three++) {
                        int far = farOfThree(film, one, two, three, meaning);
                        if (far < least) {
                            least = far;
                            best = 100 * one + 10 * two + three;
                        }
                    }
                }
            }
            return best;
        }

        int farOfThree(Film film, int one, int two, int three, int meaning) {
            int far = 0;
            for (int band = 0; band < BANDS; band++) {
                int all = loudOf(one, band) + loudOf(two, band) + loudOf(three, band);
                far += Math.abs(Math.min(MOST_LOUD, all) - look(film.wants, meaning * BANDS + band));
            }
            return far;
        }
    }

    /** A number of 0 or more, by digits to the base 2^30, the lowest first; the greatest one here has 184 bits. */
    private static final class Limbs {
        static final int BITS = 30;
        static final long LOW = (1L << BITS) - 1;

        final int[] digits = new int[8];
        int size;

        void become(int v) {
            size = 0;
            push(v);
        }

        void becomeCopy(Limbs other) {
            copyRow(other.digits, digits);
            size = other.size;
        }

        /** A digit on top; one of 0 makes no limb. */
        void push(long digit) {
            if (digit > 0 && size < digits.length) {
                lay(digits, size++, (int) digit);
            }
        }

        void multiply(int factor) {
            long carry = 0;
            for (int i = 0; i < size; i++) {
                carry += (long) look(digits, i) * factor;
                lay(digits, i, (int) (carry & LOW));
                carry >>= BITS;
            }
            push(carry);
            trim();
        }

        void add(Limbs other) {
            long carry = 0;
            int longer = Math.max(size, other.size);
            for (int i = 0; i < longer; i++) {
                carry += digitAt(i) + other.digitAt(i);
                lay(digits, i, (int) (carry & LOW));
                carry >>= BITS;
            }
            size = longer;
            push(carry);
        }

        long digitAt(int i) {
            return i < size ? look(digits, i) : 0;
        }

        boolean isDivisible(int divisor) {
            if (divisor < 1) {
                return false;
            }
            long rest = 0;
            for (int i = size - 1; i >= 0; i--) {
                rest = ((rest << BITS) + look(digits, i)) % divisor;
            }
            return rest == 0;
        }

        void divide(int divisor) {
            if (divisor < 1) {
                return;
            }
            long rest = 0;
            for (int i = size - 1; i >= 0; i--) {
                rest = (rest << BITS) + look(digits, i);
                lay(digits, i, (int) (rest / divisor));
                rest %= divisor;
            }
            trim();
        }

        void trim() {
            for (int i = size - 1; i >= 0 && look(digits, i) == 0; i--) {
                size = i;
            }
        }

        long digestOn(long h) {
            return digestRow(h, digits, 0, size);
        }
    }

    /** THE FRACTION. */
    private static final class Fraction {
        final Limbs above = new Limbs();
        final Limbs below = new Limbs();
        final Limbs term = new Limbs();

        Fraction() {
            below.become(1);
        }

        void becomeShare(int part, int whole) {
            int divisor = commonDivisor(part, whole);
            above.become(part / divisor);
            below.become(whole / divisor);
        }

        /** The greatest number that divides both; 1 at least. */
        static int commonDivisor(int one, int other) {
            int a = one;
            int b = other;
            for (int i = 0; i < 100 && b > 0; i++) {
                int rest = a % b;
                a = b;
                b = rest;
            }
            return Math.max(1, a);
        }

        void becomeMost(int part, int whole, int n, int k) {
            int divisor = commonDivisor(part, whole);
            int yes = part / divisor;
            int all = whole / divisor;
            above.become(0);
            for (int hearers = k; hearers <= n; hearers++) {
                term.become(ways(n, hearers));
                multiplyTerm(yes, hearers);
                multiplyTerm(all - yes, n - hearers);
                above.add(term);
            }
            term.become(1);
            multiplyTerm(all, n);
            below.becomeCopy(term);
            lowerByFactorsOf(all);
        }

        void multiplyTerm(int factor, int times) {
            for (int i = 0; i < times; i++) {
                term.multiply(factor);
            }
        }

        /** How many sets of k there are of n. */
        static int ways(int n, int k) {
            int sets = 1;
            for (int i = 0; i < k; i++) {
                sets = sets * (n - i) / (i + 1);
            }
            return sets;
        }

        void becomeHouse(Film film, int house) {
            below.become(0);
            for (int other = 0; other < film.houseCount; other++) {
                weigh(film, other);
                below.add(term);
                if (other == house) {
                    above.becomeCopy(term);
                }
            }
            // What stands above is made of habits (9 at most) and of ten of them together (90 at most).
            for (int factor = 2; factor <= MOST_HABIT * THINGS; factor++) {
                lowerBy(factor);
            }
            closeZero();
        }

        /** The term becomes the house's chance, all houses' brought to one number below that is left out. */
        void weigh(Film film, int house) {
            term.become(1);
            for (int i = 0; i < film.seenCount; i++) {
                term.multiply(film.habitOf(house, look(film.seen, i)));
            }
            for (int other = 0; other < film.houseCount; other++) {
                int habits = film.habitsOf(other);
                // A house without habits has no chance once something was seen, so nothing is to be brought to its 0.
                if (other != house && habits > 0) {
                    multiplyTerm(habits, film.seenCount);
                }
            }
        }

        void lowerByFactorsOf(int number) {
            int rest = number;
            for (int factor = 2; factor <= rest / factor; factor++) {
                if (rest % factor == 0) {
                    lowerBy(factor);
                    rest = without(rest, factor);
                }
            }
            if (rest > 1) {
                lowerBy(rest);
            }
            closeZero();
        }

        static int without(int number, int factor) {
            int rest = number;
            for (int i = 0; i < 32 && factor > 1 && rest % factor == 0; i++) {
                rest /= factor;
            }
            return rest;
        }

        void lowerBy(int factor) {
            if (above.size == 0) {
                return;
            }
            for (int i = 0; i < 300 && above.isDivisible(factor) && below.isDivisible(factor); i++) {
                above.divide(factor);
                below.divide(factor);
            }
        }

        void closeZero() {
            if (above.size == 0) {
                below.become(1);
            }
        }

        long digestOn(long start) {
            long h = 31 * start + (above.size > 0 ? 1 : 0);
            h = 31 * h + above.size;
            h = 31 * h + below.size;
            return below.digestOn(above.digestOn(h));
        }
    }

    /** The reel's text, read token by token into its places. */
    private static final class Reel {
        static final int ITEM = 0, PICTURE = 1, THING = 2, ITS_FLOOR = 3, ITS_SHOE = 4, FAR = 5, END = 6;

        int faultAt;
        int placeCount;
        final int[] pictures = new int[PLACES];
        final int[] things = new int[PLACES];
        final int[] floors = new int[PLACES];
        final int[] shoes = new int[PLACES];
        final int[] fars = new int[PLACES];
        private int awaited;
        private int far;

        void read(Film film) {
            faultAt = NONE;
            placeCount = 0;
            awaited = ITEM;
            far = 0;
            int end = 0;
            for (int at = 0; at < film.typed && faultAt == NONE; at = end) {
                end = Math.max(at + 1, tokenEnd(film, at));
                if (look(film.text, at) != ' ' && !takes(film, at, end)) {
                    faultAt = at;
                }
            }
            if (faultAt == NONE && awaited != ITEM) {
                faultAt = film.typed;
            }
        }

        /** Behind the last byte of the token at a place; any byte but letters and figures stands for itself. */
        static int tokenEnd(Film film, int at) {
            boolean letters = isLetter(look(film.text, at));
            boolean figures = isFigure(look(film.text, at));
            int end = at + 1;
            for (int i = at + 1; i < film.typed && i == end; i++) {
                int sign = look(film.text, i);
                if (letters && isLetter(sign) || figures && isFigure(sign)) {
                    end = i + 1;
                }
            }
            return end;
        }

        static boolean isLetter(int sign) {
            return fits(sign, 'a', 'z');
        }

        static boolean isFigure(int sign) {
            return fits(sign, '0', '9');
        }

        /** Whether the token can stand here; if so, it is taken. */
        boolean takes(Film film, int at, int end) {
            int sign = look(film.text, at);
            if (isLetter(sign)) {
                return takesWord(film, at, end);
            }
            if (isFigure(sign)) {
                return end - at <= 3 && takesNumber(film, numberOf(film, at, end));
            }
            if (sign != ';' || awaited != END) {
                return false;
            }
            awaited = ITEM;
            return true;
        }

        boolean takesWord(Film film, int at, int end) {
            if (awaited != ITEM) {
                return false;
            }
            if (isAt(film, at, end)) {
                awaited = PICTURE;
                return placeCount < PLACES;
            }
            awaited = FAR;
            return isFar(film, at, end);
        }

        static boolean isAt(Film film, int at, int end) {
            return end - at == 2 && look(film.text, at) == 'a' && look(film.text, at + 1) == 't';
        }

        static boolean isFar(Film film, int at, int end) {
            return end - at == 3 && look(film.text, at) == 'f' && look(film.text, at + 1) == 'a'
                && look(film.text, at + 2) == 'r';
        }

        static int numberOf(Film film, int at, int end) {
            int number = 0;
            for (int i = at; i < end; i++) {
                number = 10 * number + look(film.text, i) - '0';
            }
            return number;
        }

        boolean takesNumber(Film film, int number) {
            switch (awaited) {
                case PICTURE:
                    return takesPart(pictures, number, look(pictures, placeCount - 1), MOST_PICTURE);
                case THING:
                    return takesPart(things, number, 0, film.thingCount - 1);
                case ITS_FLOOR:
                    return takesPart(floors, number, 0, 9);
                case ITS_SHOE:
                    if (!takesPart(shoes, number, 0, 9)) {
                        return false;
                    }
                    lay(fars, placeCount++, far);
                    awaited = END;
                    return true;
                case FAR:
                    far = number;
                    awaited = END;
                    return number <= MOST_FAR;
                default:
                    return false;
            }
        }

        /** The parts of an at are awaited by their numbers' order. */
        boolean takesPart(int[] row, int number, int least, int greatest) {
            lay(row, placeCount, number);
            awaited++;
            return fits(number, least, greatest);
        }
    }

    /** Which places are hidden beneath which. */
    private static final class Hiding {
        final int[] values = new int[PLACES * TIMES * BANDS];
        final int[] pictures = new int[PLACES];
        private int placeCount;
        private int mask;

        void listen(Film film, Reel reel) {
            placeCount = reel.placeCount;
            mask = look(film.puts, MASK);
            copyRow(reel.pictures, pictures);
            for (int place = 0; place < placeCount; place++) {
                int thing = look(reel.things, place);
                int far = look(reel.fars, place);
                for (int time = 0; time < TIMES; time++) {
                    for (int band = 0; band < BANDS; band++) {
                        lay(values, index(place, time, band), Sounds.heard(film, thing, band, time, far));
                    }
                }
            }
        }

        static int index(int place, int time, int band) {
            return (place * TIMES + time) * BANDS + band;
        }

        boolean isHidden(int place, int hiders) {
            int others = hiders & ~(1 << place);
            for (int time = 0; time < TIMES; time++) {
                int picture = look(pictures, place) + time;
                for (int band = 0; band < BANDS; band++) {
                    int own = look(values, index(place, time, band));
                    if (own > 0 && own * mask > together(others, picture, band)) {
                        return false;
                    }
                }
            }
            return true;
        }

        int together(int places, int picture, int band) {
            int all = 0;
            for (int place = 0; places >> place > 0 && place < placeCount; place++) {
                if ((places >> place & 1) == 1) {
                    int time = picture - look(pictures, place);
                    if (time >= 0 && time < TIMES) {
                        all += look(values, index(place, time, band));
                    }
                }
            }
            return all;
        }

        int hiddenByOthers() {
            int bits = 0;
            for (int place = 0; place < placeCount; place++) {
                if (isHidden(place, (1 << placeCount) - 1)) {
                    bits |= 1 << place;
                }
            }
            return bits;
        }

        int fewestHiders() {
            int best = (1 << placeCount) - 1;
            for (int hiders = 0; hiders < 1 << placeCount; hiders++) {
                if (Integer.bitCount(hiders) < Integer.bitCount(best) && hideAllOthers(hiders)) {
                    best = hiders;
                }
            }
            return best;
        }

        boolean hideAllOthers(int hiders) {
            for (int place = 0; place < placeCount; place++) {
                if ((hiders >> place & 1) == 0 && !isHidden(place, hiders)) {
                    return false;
                }
            }
            return true;
        }
    }

    /** The orders in which places are made. */
    private static final class Trips {
        final int[] steps = new int[PLACES * PLACES];
        /** By the bits of the places still to be made and the one made last: the least seconds from there on. */
        final int[] rests = new int[PLACES << PLACES];
        private int placeCount;

        void plan(Film film, Reel reel) {
            placeCount = reel.placeCount;
            for (int one = 0; one < placeCount; one++) {
                for (int other = 0; other < placeCount; other++) {
                    lay(steps, one * PLACES + other, secondsBetween(film, reel, one, other));
                }
            }
            for (int left = 0; left <= all(); left++) {
                for (int last = 0; last < placeCount; last++) {
                    lay(rests, left * PLACES + last, leastFrom(left, last));
                }
            }
        }

        static int secondsBetween(Film film, Reel reel, int one, int other) {
            int floor = look(reel.floors, one) == look(reel.floors, other) ? 0 : look(film.puts, FLOOR);
            int shoe = look(reel.shoes, one) == look(reel.shoes, other) ? 0 : look(film.puts, SHOE);
            return floor + shoe;
        }

        int all() {
            return (1 << placeCount) - 1;
        }

        int leastFrom(int left, int last) {
            int least = left == 0 ? 0 : ENDLESS;
            for (int next = 0; next < placeCount; next++) {
                if ((left >> next & 1) == 1) {
                    least = Math.min(least, secondsBy(left, last, next));
                }
            }
            return least;
        }

        /** The least seconds from the last place on, if the next one is told; none is ahead of the first one. */
        int secondsBy(int left, int last, int next) {
            int step = last == NONE ? 0 : look(steps, last * PLACES + next);
            return step + look(rests, (left & ~(1 << next)) * PLACES + next);
        }

        int seconds(int places) {
            return leastFrom(places, NONE);
        }

        int placeInOrder(int i) {
            int left = all();
            int last = NONE;
            for (int made = 0; made <= i; made++) {
                last = firstNext(left, last);
                left &= ~(1 << last);
            }
            return last;
        }

        int firstNext(int left, int last) {
            int least = leastFrom(left, last);
            for (int next = 0; next < placeCount; next++) {
                if ((left >> next & 1) == 1 && secondsBy(left, last, next) == least) {
                    return next;
                }
            }
            return 0;
        }

        /** The places of the second walker. */
        int split() {
            int best = 0;
            int least = greaterOfTwo(0);
            for (int second = 1; second <= all(); second++) {
                int seconds = greaterOfTwo(second);
                if (seconds < least) {
                    best = second;
                    least = seconds;
                }
            }
            return best;
        }

        int greaterOfTwo(int second) {
            return Math.max(seconds(second), seconds(all() & ~second));
        }
    }
}
