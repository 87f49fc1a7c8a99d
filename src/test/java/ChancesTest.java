/** Promises 10 to 18: what a sound is taken for, and what follows of it. */
final class ChancesTest {
    private ChancesTest() {
    }

    static void run() {
        promise10Shut();
        promise10Seen();
        promise10No();
        promise11Most();
        promise11Lowest();
        leastLikeness();
        promise12May();
        promise13Best();
        promise14Truer();
        promise15Serves();
        promise16Cupboard();
        promise17Words();
        promise18Beast();
    }

    /** A thing of each level told (band 0, never fading) and a meaning of each want told (band 0). */
    private static FilmNoises film(int[] levels, int... wants) {
        FilmNoises x = new FilmNoises();
        for (int level : levels) {
            x.level(x.thing(0, 0), 0, level);
        }
        for (int i = 0; i < wants.length; i++) {
            x.meaning(10 + i);
            x.want(i, 0, wants[i]);
        }
        return x;
    }

    private static int[] levels(int... all) {
        return all;
    }

    private static void taken(FilmNoises x, String due, int thing, int meaning, int far, int seen, int late) {
        String what = "taken " + thing + " " + meaning + " " + far + " " + seen + " " + late;
        Due.same(what, x.taken(thing, meaning, far, seen, late), 1);
        Due.same(what, Due.fraction(x), due);
    }

    private static void promise10Shut() {
        // Loud 400: likenesses 900, 600, 700.
        FilmNoises x = film(levels(50, 0), 300, 0, 700);
        taken(x, "9/22", 0, 0, 0, -1, 0);
        taken(x, "3/11", 0, 1, 0, -1, 0);
        taken(x, "7/22", 0, 2, 0, -1, 0);
        // Far 9: loud 328, likenesses 972, 672, 628.
        taken(x, "243/568", 0, 0, 9, -1, 0);
        taken(x, "1/2", 1, 1, 0, -1, 0);
        taken(film(levels(0), 0), "1/1", 0, 0, 0, -1, 0);
    }

    private static void promise10Seen() {
        FilmNoises x = film(levels(50), 300, 0, 700);
        // 500 more: 900, 600, 1200 of 2700.
        taken(x, "4/9", 0, 2, 0, 2, 0);
        taken(x, "1/3", 0, 0, 0, 2, 0);
        // 500 times 2 by 3 is 333: 1033 of 2533.
        taken(x, "1033/2533", 0, 2, 0, 2, 1);
        // 166: 866 of 2366.
        taken(x, "433/1183", 0, 2, 0, 2, 2);
        taken(x, "7/22", 0, 2, 0, 2, 3);
        taken(x, "7/22", 0, 2, 0, 2, 9);
        taken(x, "7/22", 0, 2, 0, 2, -1);
        taken(x, "7/22", 0, 2, 0, 2, -9);
        x.put(1, 9);
        // 500 by 9 is 55: 755 of 2255.
        taken(x, "151/451", 0, 2, 0, 2, 8);
        x.put(0, 2000);
        // A likeness may grow over 1000: 2700 of 4200.
        taken(x, "9/14", 0, 2, 0, 2, 0);
        x.put(0, 0);
        taken(x, "7/22", 0, 2, 0, 2, 0);
    }

    private static void promise10No() {
        FilmNoises x = film(levels(0), 799, 799);
        x.want(0, 1, 300);
        x.want(1, 1, 300);
        x.house();
        x.house();
        x.whose(0);
        long digest = x.digest();
        int[] status = Due.statusOf(x);
        Due.same("taken for nothing", x.taken(0, 0, 0, -1, 0), -3);
        Due.refused("taken for nothing", x, digest, status, 1);
        status = Due.statusOf(x);
        Due.same("taken for nothing, seen too late", x.taken(0, 0, 0, 1, 3), -3);
        Due.refused("taken for nothing, seen too late", x, digest, status, 1);
        status = Due.statusOf(x);
        Due.same("BAD is ahead of NO", x.taken(0, 2, 0, -1, 0), -2);
        Due.refused("BAD is ahead of NO", x, digest, status, 0);
        taken(x, "1/1", 0, 1, 0, 1, 2);
        taken(x, "0/1", 0, 0, 0, 1, 2);
        Due.same("sign of 0", x.sign(0), 0);
    }

    private static void most(FilmNoises x, String due, int thing, int meaning, int n, int k) {
        String what = "most " + thing + " " + meaning + " " + n + " " + k;
        Due.same(what, x.most(thing, meaning, n, k), 1);
        Due.same(what, Due.fraction(x), due);
    }

    private static void promise11Most() {
        // Likenesses 1000, 500, so 2 by 3 and 1 by 3; then 1000, 0.
        FilmNoises x = film(levels(0), 0, 500);
        most(x, "2/3", 0, 0, 1, 1);
        most(x, "1/1", 0, 0, 1, 0);
        most(x, "4/9", 0, 0, 2, 2);
        most(x, "8/9", 0, 0, 2, 1);
        // 10 times 8 by 243, 5 times 16, and 32.
        most(x, "64/81", 0, 0, 5, 3);
        most(x, "17/81", 0, 1, 5, 3);
        most(x, "1/19683", 0, 1, 9, 9);
        most(x, "1/1", 0, 1, 9, 0);
        x.want(1, 0, 799);
        x.want(1, 1, 799);
        most(x, "0/1", 0, 1, 9, 1);
        most(x, "1/1", 0, 1, 9, 0);
        most(x, "1/1", 0, 0, 9, 9);
        // 1000 of 1997 and 997 of 1997: 1997 is a prime.
        FilmNoises y = film(levels(0), 0, 3);
        most(y, "1000000000000000000000000000/505129327174102601573190078317", 0, 0, 9, 9);
        Due.same("three limbs above", y.sign(1), 3);
        Due.same("four limbs below", y.sign(2), 4);
        FilmNoises none = film(levels(0), 799);
        none.want(0, 1, 799);
        long digest = none.digest();
        int[] status = Due.statusOf(none);
        Due.same("most of nothing", none.most(0, 0, 1, 0), -3);
        Due.refused("most of nothing", none, digest, status, 1);
        Due.same("most, BAD ahead of NO", none.most(0, 0, 1, 2), -2);
    }

    private static void promise11Lowest() {
        // Likenesses 1000 and 200: 5 by 6 and 1 by 6.
        FilmNoises x = film(levels(0), 0, 799);
        x.want(1, 1, 1);
        most(x, "1/6", 0, 1, 1, 1);
        most(x, "2/27", 0, 1, 3, 2);
        most(x, "25/27", 0, 0, 3, 2);
        // Alike: 1 by 2.
        FilmNoises y = film(levels(50), 400, 400);
        most(y, "1/2", 0, 1, 3, 2);
        most(y, "1/2", 0, 1, 9, 5);
        most(y, "511/512", 0, 1, 9, 1);
        // Likenesses 900 and 1000 with the thing near, not far: 9 by 19 and 10 by 19.
        FilmNoises z = film(levels(50), 300, 400);
        most(z, "81/361", 0, 0, 2, 2);
        Due.same("may, near", z.may(0, 0, 9, 19), 9);
        Due.same("may, near, no more", z.may(0, 0, 10, 21), 2);
    }

    /** A likeness of 1 is not 0. */
    private static void leastLikeness() {
        FilmNoises x = film(levels(0, 0), 799);
        x.want(0, 1, 200);
        taken(x, "1/1", 0, 0, 0, -1, 0);
        most(x, "1/1", 0, 0, 2, 2);
        Due.same("may, of 1", x.may(0, 0, 99, 99), 9);
        Due.same("serves, of 1", x.serves(1, 0), 1000);
        Due.same("words, of 1", x.words(), 0);
        x.level(1, 0, 0);
        x.level(1, 2, 1);
        Due.same("truer, 1 over none", x.truer(0, 1, 0), 0);
    }

    private static void promise12May() {
        // Likenesses 400 and 600; 900 of 1500, 733 of 1333, 566 of 1166, 400 of 1000.
        FilmNoises x = film(levels(0), 600, 400);
        Due.same("may, 3 by 5", x.may(0, 0, 3, 5), 0);
        Due.same("may, 61 by 99", x.may(0, 0, 61, 99), -1);
        Due.same("may, 1 by 2", x.may(0, 0, 1, 2), 1);
        Due.same("may, 48 by 99", x.may(0, 0, 48, 99), 2);
        Due.same("may, 2 by 5", x.may(0, 0, 2, 5), 9);
        Due.same("may, 41 by 99", x.may(0, 0, 41, 99), 2);
        Due.same("may, all", x.may(0, 0, 99, 99), -1);
        Due.same("none is no refusal", x.status(0) + x.status(1) + x.status(2), 0);
        x.put(1, 9);
        x.put(0, 1000);
        // 1400 of 2000 at 0, then 111 of 1000 less a picture: at 5 844 of 1444, at 8 511 of 1111.
        Due.same("may, 7 by 10", x.may(0, 0, 7, 10), 0);
        Due.same("may, 58 by 99", x.may(0, 0, 58, 99), 4);
        Due.same("may, 45 by 99", x.may(0, 0, 45, 99), 8);
        Due.same("may has no fraction", Due.fraction(x), "0/1");
        may12No();
    }

    private static void may12No() {
        FilmNoises none = film(levels(0), 799);
        none.want(0, 1, 799);
        long digest = none.digest();
        int[] status = Due.statusOf(none);
        Due.same("may, all 0", none.may(0, 0, 1, 1), -20);
        Due.refused("may, all 0", none, digest, status, 1);
        status = Due.statusOf(none);
        Due.same("may, BAD ahead of NO", none.may(0, 0, 2, 1), -10);
        Due.refused("may, BAD ahead of NO", none, digest, status, 0);
    }

    private static void promise13Best() {
        FilmNoises x = film(levels(), 0, 400);
        Due.same("best of none", x.best(0), -1);
        Due.same("none is no refusal", x.status(1), 0);
        x = film(levels(30, 50, 10, 50), 0, 400);
        Due.same("best, the second and the fourth alike", x.best(1), 1);
        Due.same("best for silence", x.best(0), 2);
        // More alike, but of less share: 984 of 1984 for thing 0, 900 of 1804 for thing 1.
        FilmNoises y = film(levels(0, 0), 0, 0);
        y.want(0, 0, 10);
        y.level(1, 1, 12);
        y.want(0, 1, 6);
        Due.same("likeness of thing 0", y.likeness(0, 0, 0), 984);
        Due.same("likeness of thing 1", y.likeness(1, 0, 0), 900);
        Due.same("and for the other", y.likeness(1, 1, 0), 904);
        Due.same("and of thing 0 for the other", y.likeness(0, 1, 0), 1000);
        Due.same("by the share, not by the likeness", y.best(0), 1);
        FilmNoises none = film(levels(0, 0), 799, 799);
        none.want(0, 1, 799);
        none.want(1, 1, 799);
        Due.same("best, NO is as 0", none.best(1), 0);
        none.level(1, 0, 99);
        none.level(1, 1, 99);
        Due.same("best, over NO", none.best(1), 1);
    }

    private static void promise14Truer() {
        FilmNoises x = film(levels(30, 50, 10, 50), 0, 400);
        Due.same("truer", x.truer(1, 0, 1), 1);
        Due.same("truer, told the other way", x.truer(1, 1, 0), 1);
        Due.same("truer for silence", x.truer(0, 0, 1), 0);
        Due.same("of like ones the first told", x.truer(1, 3, 1), 3);
        Due.same("of like ones the first told, too", x.truer(1, 1, 3), 1);
        Due.same("alike", x.truer(1, 1, 1), -2);
        FilmNoises none = film(levels(0, 99, 0), 799);
        none.want(0, 1, 799);
        none.level(1, 1, 99);
        Due.same("NO is as 0", none.truer(0, 0, 1), 1);
        Due.same("NO and NO", none.truer(0, 2, 0), 2);
    }

    private static void promise15Serves() {
        // Thing 0: 700, 1000 of 1700; thing 1: 1000, 700; thing 2: 860, 840.
        FilmNoises x = film(levels(50, 12, 30), 96, 400);
        Due.same("serves, none", x.serves(0, 0), 0);
        Due.same("serves, one", x.serves(1, 0), 1000 * 696 / 1696);
        Due.same("serves, the other", x.serves(2, 0), 1000 * 1000 / 1696);
        Due.same("serves, the third", x.serves(4, 0), 1000 * 856 / 1696);
        Due.same("serves, two", x.serves(5, 0), 504);
        Due.same("serves, two for another", x.serves(5, 1), 589);
        Due.same("serves, all", x.serves(7, 0), 589);
        Due.same("serves, bits of none", x.serves(8, 0), -2);
        FilmNoises none = film(levels(0), 799);
        none.want(0, 1, 799);
        Due.same("serves, NO is 0", none.serves(1, 0), 0);
        Due.same("serves, and no refusal", none.status(1), 0);
        Due.same("serves, all of it", film(levels(0), 3).serves(1, 0), 1000);
    }

    private static void promise16Cupboard() {
        FilmNoises x = film(levels(50, 12, 30, 50), 96, 400);
        Due.same("cupboard, none", x.cupboard(0), 0);
        // By WORTH 10 and 11: thing 0 10 * 410 + 11 * 589, thing 1 10 * 589 + 11 * 410, thing 2 10 * 504 + 11 * 495.
        Due.same("cupboard, one", x.cupboard(1), 1);
        Due.same("cupboard, two", x.cupboard(2), 3);
        Due.same("cupboard, three, the least bits", x.cupboard(3), 7);
        Due.same("cupboard, all", x.cupboard(4), 15);
        Due.same("cupboard, over all", x.cupboard(5), -2);
        FilmNoises y = film(levels(12, 50), 96, 400);
        Due.same("cupboard by worth", y.cupboard(1), 2);
        FilmNoises z = film(levels(12, 50), 96);
        z.meaning(9);
        z.want(1, 0, 400);
        Due.same("cupboard by lesser worth", z.cupboard(1), 1);
        Due.same("cupboard without meanings", film(levels(1, 2, 3)).cupboard(2), 3);
        Due.same("cupboard without things", film(levels()).cupboard(0), 0);
        Due.same("cupboard of more than there are", film(levels()).cupboard(1), -2);
    }

    private static void promise17Words() {
        Due.same("words, no things", film(levels(), 1, 2, 3).words(), 7);
        Due.same("words, no meanings", film(levels(1)).words(), 0);
        Due.same("words, one meaning", film(levels(0), 5).words(), 0);
        FilmNoises x = film(levels(50, 12), 96, 400);
        Due.same("words, none needed", x.words(), 0);
        x.meaning(0);
        x.want(2, 0, 240);
        Due.same("words, the best for it is more for another", x.words(), 4);
        x.want(2, 0, 400);
        Due.same("words, as much for another", x.words(), 6);
        FilmNoises none = film(levels(0), 799);
        none.want(0, 1, 799);
        Due.same("words, NO", none.words(), 1);
    }

    private static void promise18Beast() {
        FilmNoises x = film(levels(10, 20), 400);
        long digest = x.digest();
        int[] status = Due.statusOf(x);
        Due.same("beast of two", x.beast(0), -3);
        Due.refused("beast of two", x, digest, status, 1);
        Due.same("beast, BAD ahead of NO", x.beast(1), -2);
        x.thing(0, 0);
        Due.same("beast of three", x.beast(0), 12);
        x = film(levels(10, 20, 5, 20, 15, 10), 400, 0, 799);
        // 80, 160, 40, 160, 120, 80: the first three that make 400 are 0, 1, 3.
        Due.same("beast, as wanted", x.beast(0), 13);
        // 40, 80, 80.
        Due.same("beast, the least", x.beast(1), 25);
        // 160, 160, 120.
        Due.same("beast, the most", x.beast(2), 134);
        FilmNoises loud = film(levels(50, 60, 99, 99, 99), 799);
        Due.same("beast, 799 at most", loud.beast(0), 12);
        FilmNoises bands = film(levels(50, 50, 50, 0), 799);
        bands.level(2, 5, 99);
        bands.level(3, 5, 1);
        Due.same("beast, all bands together", bands.beast(0), 13);
        beastOverAThousand();
    }

    /** How far is not cut off where LIKENESS is 0. */
    private static void beastOverAThousand() {
        FilmNoises x = film(levels(0, 0, 0, 10), 799);
        x.want(0, 1, 799);
        Due.same("beast, all further off than 1000", x.beast(0), 13);
    }
}
