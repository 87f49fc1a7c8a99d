import java.math.BigInteger;

/** Things and meanings at the document's borders: what is cut, what is 0 at least, what is 99 or 799 at most, like ones. */
final class BordersTest {
    private BordersTest() {
    }

    static void run() {
        levelsKept();
        classesAtMost();
        fades();
        far();
        louds();
        likenessBands();
        within();
        eyes();
        takenFar();
        most();
        may();
        mayWithin();
        mayJustBelow();
        bestOfLikeOnes();
        truerOfLikeOnes();
        servesCut();
        cupboardOfLikeOnes();
        cupboardFull();
        words();
        beastAtMost();
        beastFirst();
        fractionAlone();
    }

    private static FilmNoises thing(int type, int fades, int level) {
        FilmNoises x = new FilmNoises();
        x.thing(type, fades);
        for (int band = 0; band < 6; band++) {
            x.level(0, band, level);
        }
        return x;
    }

    /** A meaning that wants v of band 0 and nothing of the others. */
    private static int meaning(FilmNoises x, int worth, int v) {
        int number = x.meaning(worth);
        x.want(number, 0, v);
        return number;
    }

    /** A thing of class 0 that does not fade, LOUD 8 times the level in band 0, in another band so as told. */
    private static int loud(FilmNoises x, int level, int band, int other) {
        int number = x.thing(0, 0);
        x.level(number, 0, level);
        x.level(number, band, other);
        return number;
    }

    /** No thing is like this one: further off than 1000. */
    private static int unlike(FilmNoises x) {
        int number = meaning(x, 50, 799);
        x.want(number, 4, 799);
        return number;
    }

    private static void taken(String what, FilmNoises x, String due, int thing, int meaning, int far, int seen, int late) {
        Due.same(what, x.taken(thing, meaning, far, seen, late), 1);
        Due.same(what, Due.fraction(x), due);
    }

    private static void levelsKept() {
        for (int v : new int[] {0, 1, 98, 99}) {
            FilmNoises x = thing(0, 0, v);
            for (int band = 0; band < 6; band++) {
                Due.same("level kept", x.value(0, band, 0, 0), v);
                Due.same("level was", x.level(0, band, 99 - v), v);
                Due.same("level is", x.value(0, band, 0, 0), 99 - v);
            }
        }
        FilmNoises x = thing(0, 0, 50);
        Due.same("level 100", x.level(0, 5, 100), -2);
        Due.same("level -1", x.level(0, 5, -1), -2);
        Due.same("level as it was", x.level(0, 5, 51), 50);
    }

    private static void odd(String what, FilmNoises x, int even, int odd) {
        for (int time = 0; time < 8; time++) {
            Due.same(what + " in time " + time, x.value(0, 1, time, 0), time % 2 == 0 ? even : odd);
        }
    }

    private static void classesAtMost() {
        odd("true, 99", thing(0, 0, 99), 99, 99);
        odd("stood, 95", thing(1, 0, 95), 95, 98);
        odd("stood, 96", thing(1, 0, 96), 96, 99);
        odd("stood, 97", thing(1, 0, 97), 97, 99);
        odd("stood, 99", thing(1, 0, 99), 99, 99);
        odd("made, 96", thing(2, 0, 96), 99, 96);
        odd("made, 97", thing(2, 0, 97), 99, 97);
        odd("made, 0", thing(2, 0, 0), 3, 0);
        odd("shared, 0", thing(3, 0, 0), 0, 0);
        odd("shared, 49", thing(3, 0, 49), 98, 98);
        odd("shared, 50", thing(3, 0, 50), 99, 99);
        odd("shared, 99", thing(3, 0, 99), 99, 99);
        // Band 1: less an eighth, cut.
        odd("wooled, 7", thing(4, 0, 7), 7, 7);
        odd("wooled, 8", thing(4, 0, 8), 7, 7);
        odd("wooled, 99", thing(4, 0, 99), 87, 87);
        FilmNoises x = thing(4, 0, 99);
        int[] due = {99, 87, 75, 62, 50, 38};
        for (int band = 0; band < 6; band++) {
            Due.same("wooled, band " + band, x.value(0, band, 0, 0), due[band]);
        }
    }

    private static void fades() {
        int[][] due = {{99, 99, 99}, {99, 89, 80}, {99, 79, 63}, {99, 69, 48}, {99, 59, 35}, {99, 49, 24}, {99, 39, 15}, {99, 29, 8},
            {99, 19, 3}, {99, 9, 0}};
        for (int fades = 0; fades < 10; fades++) {
            FilmNoises x = thing(0, fades, 99);
            FilmNoises made = thing(2, fades, 99);
            for (int time = 0; time < 3; time++) {
                Due.same("fades " + fades + " in time " + time, x.value(0, 5, time, 0), due[fades][time]);
                Due.same("made, fades " + fades, made.value(0, 5, 7 - time, 0), Math.min(99, due[fades][time] + time % 2 * 3));
            }
        }
        // Cut in each time: 1 by 0.9 is 0, 9 becomes 8, 7, 6, 5, 4, 3, 2.
        FilmNoises x = thing(0, 1, 9);
        for (int time = 0; time < 8; time++) {
            Due.same("cut in time " + time, x.value(0, 0, time, 0), 9 - time);
        }
        Due.same("1 fades", thing(0, 1, 1).value(0, 0, 1, 0), 0);
    }

    private static void far() {
        for (int f = 0; f < 10; f++) {
            for (int band = 0; band < 6; band++) {
                int less = f * (band + 1);
                String what = "far " + f + ", band " + band;
                Due.same(what + ", one more", thing(0, 0, less + 1).value(0, band, 7, f), 1);
                Due.same(what + ", just as much", thing(0, 0, less).value(0, band, 7, f), 0);
                Due.same(what + ", one less, 0 at least", thing(0, 0, Math.max(0, less - 1)).value(0, band, 7, f), 0);
                Due.same(what + ", nothing, 0 at least", thing(0, 0, 0).loud(0, band, f), 0);
            }
        }
        Due.same("far behind 99 at most", thing(3, 0, 99).value(0, 5, 0, 9), 45);
        Due.same("far behind 3 more", thing(1, 0, 0).value(0, 2, 1, 1), 0);
        Due.same("far 10", thing(0, 0, 99).value(0, 0, 0, 10), -2);
        Due.same("time 8", thing(0, 0, 99).value(0, 0, 8, 0), -2);
    }

    private static void louds() {
        // All of 0 .. 7: 9, 8, 7, 6, 5, 4, 3, 2.
        Due.same("loud, all times", thing(0, 1, 9).loud(0, 5, 0), 44);
        Due.same("loud, far, each 0 at least", thing(0, 1, 9).loud(0, 5, 1), 3 + 2 + 1);
        Due.same("loud, time 7 alone", thing(2, 9, 99).loud(0, 5, 9), 45);
        Due.same("loud, time 0 alone", thing(0, 9, 99).loud(0, 5, 9), 45);
        Due.same("the least", thing(1, 9, 0).loud(0, 0, 3), 0);
        Due.same("the greatest", thing(1, 0, 99).loud(0, 0, 0), 792);
    }

    private static void likenessBands() {
        for (int band = 0; band < 6; band++) {
            FilmNoises x = new FilmNoises();
            x.thing(0, 0);
            x.meaning(0);
            x.want(0, band, 799);
            Due.same("too soft, band " + band, x.likeness(0, 0, 0), 201);
            x.level(0, band, 99);
            Due.same("nearly as wanted, band " + band, x.likeness(0, 0, 0), 993);
            x.want(0, band, 0);
            Due.same("too loud, band " + band, x.likeness(0, 0, 0), 208);
            x.want(0, band, 791);
            Due.same("by one too loud, band " + band, x.likeness(0, 0, 0), 999);
            x.want(0, band, 792);
            Due.same("as wanted, band " + band, x.likeness(0, 0, 0), 1000);
            Due.same("as wanted, far", x.likeness(0, 0, 1), 1000 - 8 * (band + 1));
            Due.same("want 800", x.want(0, band, 800), -2);
            Due.same("want -1", x.want(0, band, -1), -2);
            Due.same("want as it was", x.want(0, band, 0), 792);
        }
        FilmNoises x = thing(0, 0, 99);
        x.meaning(0);
        Due.same("far more than 1000 off, 0 at least", x.likeness(0, 0, 0), 0);
        for (int band = 0; band < 6; band++) {
            x.want(0, band, 792);
        }
        Due.same("in all bands as wanted", x.likeness(0, 0, 0), 1000);
        for (int band = 0; band < 6; band++) {
            x.want(0, band, band % 2 == 0 ? 791 : 793);
        }
        Due.same("more and less, without sign", x.likeness(0, 0, 0), 994);
    }

    /** Likenesses 1000 and 0: seeing the second adds to 0. */
    private static FilmNoises clear() {
        FilmNoises x = new FilmNoises();
        x.thing(0, 0);
        meaning(x, 1, 0);
        unlike(x);
        return x;
    }

    /** EYES 1000, so that the share of the second is b by 1000 and b. */
    private static void within() {
        for (int within = 1; within <= 9; within++) {
            FilmNoises x = clear();
            x.put(0, 1000);
            x.put(1, within);
            for (int late = -9; late <= 9; late++) {
                int more = late < 0 || late >= within ? 0 : 1000 * (within - late) / within;
                BigInteger part = BigInteger.valueOf(more);
                BigInteger all = BigInteger.valueOf(1000 + more);
                BigInteger common = part.gcd(all);
                taken("within " + within + ", late " + late, x, part.divide(common) + "/" + all.divide(common), 0, 1, 0, 1, late);
            }
        }
    }

    private static void eyes() {
        FilmNoises x = clear();
        taken("500 at first", x, "1/3", 0, 1, 0, 1, 0);
        taken("the seen one alone is more", x, "2/3", 0, 0, 0, 1, 0);
        taken("over 1000", x, "1/1", 0, 0, 0, 0, 0);
        x.put(0, 2000);
        taken("the greatest EYES", x, "2/3", 0, 1, 0, 1, 0);
        x.put(0, 1);
        taken("the least EYES", x, "1/1001", 0, 1, 0, 1, 0);
        taken("2 by 3 is cut", x, "0/1", 0, 1, 0, 1, 1);
        x.put(0, 2);
        taken("4 by 3 is cut", x, "1/1001", 0, 1, 0, 1, 1);
        taken("2 by 3 is cut, too", x, "0/1", 0, 1, 0, 1, 2);
        x.put(0, 0);
        taken("no EYES", x, "0/1", 0, 1, 0, 1, 0);
        Due.same("EYES 2001", x.put(0, 2001), -2);
        Due.same("EYES as they were", x.put(0, 5), 0);
    }

    private static void takenFar() {
        FilmNoises x = new FilmNoises();
        x.thing(0, 0);
        x.level(0, 5, 60);
        for (int i = 0; i < 6; i++) {
            x.want(x.meaning(0), 5, 480 - 48 * i);
        }
        // Far f takes 48 f of 480: likenesses 1000 less 48 times how far i is from f.
        taken("far 0", x, "25/132", 0, 0, 0, -1, 0);
        taken("far 0, the last of six", x, "19/132", 0, 5, 0, -1, 0);
        taken("far 5, the last of six", x, "25/132", 0, 5, 5, -1, 0);
        taken("far 9", x, "71/516", 0, 0, 9, -1, 0);
        taken("far 9, the last of six", x, "101/516", 0, 5, 9, -1, 0);
    }

    private static void most() {
        // Likenesses 600 and 400: 3 by 5.
        FilmNoises x = new FilmNoises();
        x.thing(0, 0);
        meaning(x, 0, 400);
        meaning(x, 0, 600);
        String[] one = {"1/1", "3/5"};
        String[] nine = {"1/1", "1952613/1953125", "1945701/1953125", "1904229/1953125", "1759077/1953125", "286497/390625",
            "942597/1953125", "452709/1953125", "137781/1953125", "19683/1953125"};
        for (int k = 0; k <= 1; k++) {
            Due.same("most of 1", x.most(0, 0, 1, k), 1);
            Due.same("most of 1, " + k, Due.fraction(x), one[k]);
        }
        for (int k = 0; k <= 9; k++) {
            Due.same("most of 9", x.most(0, 0, 9, k), 1);
            Due.same("most of 9, " + k, Due.fraction(x), nine[k]);
        }
        Due.same("most of 9, 10", x.most(0, 0, 9, 10), -2);
        Due.same("most of 1, 2", x.most(0, 0, 1, 2), -2);
        Due.same("most of 10", x.most(0, 0, 10, 0), -2);
        Due.same("most of 0", x.most(0, 0, 0, 0), -2);
        FilmNoises clear = clear();
        for (int n = 1; n <= 9; n++) {
            Due.same("most, 0 by 1", clear.most(0, 1, n, 1), 1);
            Due.same("most, none of " + n, Due.fraction(clear), "0/1");
            Due.same("no sign", clear.sign(0), 0);
            Due.same("no limb above", clear.sign(1), 0);
            Due.same("one limb below", clear.sign(2), 1);
            Due.same("most, none at least", clear.most(0, 1, n, 0), 1);
            Due.same("most, none at least of " + n, Due.fraction(clear), "1/1");
            Due.same("a sign with one limb", clear.sign(0), 1);
            Due.same("most, all", clear.most(0, 0, n, n), 1);
            Due.same("most, all of " + n, Due.fraction(clear), "1/1");
        }
        mostOfASquare();
        mostByBinomials();
    }

    /** All n and k, for shares whose number below has factors that the sum above may have, too. */
    private static void mostByBinomials() {
        int[][] likes = {{1000, 1000}, {1000, 500}, {250, 750}, {1000, 0}, {100, 800}, {240, 760}, {300, 500}, {350, 250}, {999, 1000},
            {1, 1000}, {3, 4}, {1000, 400}};
        for (int[] two : likes) {
            FilmNoises x = new FilmNoises();
            x.thing(0, 0);
            for (int i = 0; i < 2; i++) {
                meaning(x, 0, Math.min(799, 1000 - two[i]));
                x.want(i, 1, Math.max(0, 201 - two[i]));
                Due.same("likeness " + two[i], x.likeness(0, i, 0), two[i]);
            }
            for (int n = 1; n <= 9; n++) {
                for (int k = 0; k <= n; k++) {
                    Due.same("most " + n + " " + k, x.most(0, 0, n, k), 1);
                    Due.same("most " + n + " " + k, Due.fraction(x), atLeast(two[0], two[1], n, k));
                }
            }
        }
    }

    /** By Pascal's triangle: the ways in which k at least of n hearers say yes, by all ways. */
    private static String atLeast(int yes, int no, int n, int k) {
        BigInteger[] ways = new BigInteger[n + 1];
        for (int i = 0; i <= n; i++) {
            ways[i] = BigInteger.ONE;
            for (int j = i - 1; j > 0; j--) {
                ways[j] = ways[j].add(ways[j - 1]);
            }
        }
        BigInteger sum = BigInteger.ZERO;
        for (int i = k; i <= n; i++) {
            sum = sum.add(ways[i].multiply(BigInteger.valueOf(yes).pow(i)).multiply(BigInteger.valueOf(no).pow(n - i)));
        }
        BigInteger all = BigInteger.valueOf(yes + no).pow(n);
        BigInteger common = sum.gcd(all);
        return sum.divide(common) + "/" + all.divide(common);
    }

    /** The number below may be a square of a prime, and the sum above may be a multiple of it. */
    private static void mostOfASquare() {
        // Likenesses 841 and 840 of 1681, which is 41 times 41; two of two is 841 * 841 by 1681 * 1681.
        FilmNoises x = new FilmNoises();
        x.thing(0, 0);
        meaning(x, 0, 159);
        meaning(x, 0, 160);
        Due.same("most, by a square", x.most(0, 0, 2, 2), 1);
        Due.same("most, by a square", Due.fraction(x), "707281/2825761");
        Due.same("most, one by a square", x.most(0, 1, 2, 1), 1);
        Due.same("most, one by a square", Due.fraction(x), "2118480/2825761");
        // 2 by 3: three at least of five are 192 by 243, which is 64 by 81.
        FilmNoises y = new FilmNoises();
        y.thing(0, 0);
        meaning(y, 0, 400);
        meaning(y, 0, 700);
        Due.same("most, lowered", y.most(0, 0, 5, 3), 1);
        Due.same("most, lowered", Due.fraction(y), "64/81");
        Due.same("most, lowered by 3", y.most(0, 1, 9, 3), 1);
        Due.same("most, lowered by 3", Due.fraction(y), "12259/19683");
    }

    private static void may() {
        // Eyes shut 600 of 1000; by EYES 1000 within 9: 1600 of 2000, 1488 of 1888, .. , 711 of 1111.
        FilmNoises x = new FilmNoises();
        x.thing(0, 0);
        meaning(x, 0, 400);
        meaning(x, 0, 600);
        x.put(0, 1000);
        x.put(1, 9);
        Due.same("may, just so much with eyes shut", x.may(0, 0, 3, 5), 9);
        Due.same("may, just so much with eyes shut, of greater numbers", x.may(0, 0, 57, 95), 9);
        Due.same("may, a little more", x.may(0, 0, 61, 99), 8);
        Due.same("may, just so much at once", x.may(0, 0, 4, 5), 0);
        Due.same("may, a little more than at once", x.may(0, 0, 80, 99), -1);
        Due.same("may, the least", x.may(0, 0, 1, 99), 9);
        Due.same("may, all", x.may(0, 0, 1, 1), -1);
        Due.same("may, all of 99", x.may(0, 0, 99, 99), -1);
        FilmNoises all = clear();
        Due.same("may, all of it", all.may(0, 0, 1, 1), 9);
        Due.same("may, all of it, 99", all.may(0, 0, 99, 99), 9);
        Due.same("may, nothing of it but seen, a third", all.may(0, 1, 1, 3), 0);
        Due.same("may, nothing of it but seen", all.may(0, 1, 1, 99), 2);
        all.put(0, 0);
        Due.same("may, nothing of it", all.may(0, 1, 1, 99), -1);
    }

    /** Shares by hand, just as much and one likeness less: a by b is not cut, nor is the share. */
    private static void mayJustBelow() {
        mayBySharesOf(500, 500, 1, 2);
        mayBySharesOf(250, 500, 1, 3);
        mayBySharesOf(668, 334, 2, 3);
        mayBySharesOf(970, 10, 97, 98);
        mayBySharesOf(980, 10, 98, 99);
        mayBySharesOf(10, 980, 1, 99);
        mayBySharesOf(297, 396, 3, 7);
    }

    private static void mayBySharesOf(int like, int other, int a, int b) {
        FilmNoises x = new FilmNoises();
        x.thing(0, 0);
        x.put(0, 0);
        for (int v : new int[] {like, like - 1, other}) {
            int meaning = x.meaning(0);
            x.want(meaning, 1, Math.min(700, 1000 - v));
            x.want(meaning, 4, Math.max(0, 300 - v));
            Due.same("likeness " + v, x.likeness(0, meaning, 0), v);
        }
        String what = "may, " + like + " and " + other + ", " + a + " by " + b;
        // The one of one less is silenced for the first question, then the other way round.
        silenced(x, 1);
        Due.same(what, x.may(0, 0, a, b), 9);
        x.want(1, 1, Math.min(700, 1001 - like));
        x.want(1, 4, Math.max(0, 301 - like));
        x.want(1, 5, 0);
        silenced(x, 0);
        Due.same(what + ", one less", x.may(0, 1, a, b), -1);
    }

    private static void silenced(FilmNoises x, int meaning) {
        x.want(meaning, 1, 799);
        x.want(meaning, 5, 799);
    }

    private static void mayWithin() {
        for (int within = 1; within <= 9; within++) {
            FilmNoises x = clear();
            x.put(0, 2000);
            x.put(1, within);
            // Behind WITHIN it is 0 by 1000; the last one ahead of it is more than 1 by 99.
            Due.same("may, within " + within, x.may(0, 1, 1, 99), within - 1);
            Due.same("may, at once, within " + within, x.may(0, 1, 66, 99), 0);
            Due.same("may, never, within " + within, x.may(0, 1, 67, 99), -1);
        }
    }

    private static void bestOfLikeOnes() {
        FilmNoises x = new FilmNoises();
        unlike(x);
        for (int n = 0; n < 10; n++) {
            Due.same("best of " + n + " like ones, all NO", x.best(0), n == 0 ? -1 : 0);
            x.thing(0, 0);
        }
        meaning(x, 0, 0);
        Due.same("best of ten like ones, all 0", x.best(0), 0);
        Due.same("best of ten like ones, all 1", x.best(1), 0);
        x.level(9, 4, 99);
        Due.same("the last one alone is a little like", x.best(0), 9);
        x.level(8, 4, 99);
        Due.same("of the last two the least", x.best(0), 8);
        Due.same("for the other one of the first eight", x.best(1), 0);
        // NO is as 0 and the least comes first, even if a later one is 0 by more.
        FilmNoises y = new FilmNoises();
        loud(y, 99, 1, 99);
        loud(y, 0, 1, 0);
        meaning(y, 0, 0);
        unlike(y);
        Due.same("likeness of NO", y.likeness(0, 0, 0) + y.likeness(0, 1, 0), 0);
        Due.same("0 and NO are alike", y.best(1), 0);
        Due.same("0 and NO are alike, truer", y.truer(1, 1, 0), 1);
        Due.same("0 and NO are alike, truer the other way", y.truer(1, 0, 1), 0);
        Due.same("1 and NO are not", y.best(0), 1);
    }

    private static void truerOfLikeOnes() {
        FilmNoises x = new FilmNoises();
        for (int i = 0; i < 10; i++) {
            x.thing(0, 0);
        }
        meaning(x, 0, 100);
        meaning(x, 0, 5);
        for (int one = 0; one < 10; one++) {
            for (int other = 0; other < 10; other++) {
                Due.same("of like ones the first told", x.truer(0, one, other), one == other ? -2 : one);
            }
        }
        x.level(3, 2, 1);
        Due.same("one less like to both", x.truer(0, 3, 4), 4);
        Due.same("one less like to both, told first", x.truer(0, 4, 3), 4);
        x.level(3, 2, 0);
        x.level(3, 0, 1);
        Due.same("nearer to the one, told last", x.truer(0, 4, 3), 3);
        Due.same("nearer to the one, told first", x.truer(0, 3, 4), 3);
        Due.same("further from the other", x.truer(1, 3, 4), 4);
        truerBySharesAlone();
    }

    /** Hardly like, but taken for nothing else: 1 by 1 is more than 999 by 1200. */
    private static void truerBySharesAlone() {
        FilmNoises x = new FilmNoises();
        x.thing(0, 0);
        loud(x, 0, 1, 99);
        x.level(1, 2, 26);
        meaning(x, 0, 0);
        meaning(x, 0, 799);
        x.want(0, 1, 1);
        Due.same("likeness 999", x.likeness(0, 0, 0), 999);
        Due.same("likeness 201", x.likeness(0, 1, 0), 201);
        Due.same("likeness 1", x.likeness(1, 0, 0), 1);
        Due.same("likeness 0", x.likeness(1, 1, 0), 0);
        Due.same("1 by 1, told last", x.truer(0, 0, 1), 1);
        Due.same("1 by 1, told first", x.truer(0, 1, 0), 1);
        Due.same("0 by 1, told first", x.truer(1, 1, 0), 0);
        Due.same("0 by 1, told last", x.truer(1, 0, 1), 0);
        Due.same("best, 1 by 1", x.best(0), 1);
        Due.same("best, 201 by 1200", x.best(1), 0);
        Due.same("serves, 1 by 1", x.serves(2, 0), 1000);
    }

    private static void servesCut() {
        // 500.2 and 499.7 of a thousand.
        FilmNoises x = new FilmNoises();
        x.thing(0, 0);
        meaning(x, 1, 0);
        meaning(x, 1, 1);
        Due.same("serves, 500.25 is cut", x.serves(1, 0), 500);
        Due.same("serves, 499.7 is cut", x.serves(1, 1), 499);
        x.want(1, 0, 799);
        x.want(1, 1, 200);
        Due.same("serves, 999.0", x.serves(1, 0), 999);
        Due.same("serves, 0.99 is cut to 0", x.serves(1, 1), 0);
        x.want(1, 1, 201);
        Due.same("serves, all", x.serves(1, 0), 1000);
        for (int i = 1; i < 10; i++) {
            loud(x, 10 * i, 1, 99);
        }
        Due.same("serves, the most of all ten", x.serves(1023, 0), 1000);
        Due.same("serves, the most of the last nine", x.serves(1022, 1), x.serves(512, 1));
        Due.same("serves, none", x.serves(0, 1), 0);
    }

    private static void cupboardOfLikeOnes() {
        for (int worth = 0; worth <= 99; worth += 99) {
            FilmNoises x = new FilmNoises();
            meaning(x, worth, 3);
            for (int n = 0; n <= 10; n++) {
                for (int k = 0; k <= n; k++) {
                    Due.same("cupboard, " + k + " of " + n + " like ones, worth " + worth, x.cupboard(k), (1 << k) - 1);
                }
                Due.same("cupboard, one more than " + n, x.cupboard(n + 1), -2);
                x.thing(0, 0);
            }
            Due.same("cupboard, eleven", x.cupboard(11), -2);
            Due.same("cupboard, below 0", x.cupboard(-1), -2);
        }
    }

    /** Six meanings, each with a thing of its own among the last, and of worths that fall. */
    private static void cupboardFull() {
        FilmNoises x = new FilmNoises();
        for (int i = 0; i < 10; i++) {
            x.thing(0, 0);
        }
        for (int i = 0; i < 6; i++) {
            x.meaning(99 - 10 * i);
            x.want(i, i, 792);
            x.level(9 - i, i, 99);
        }
        for (int k = 1; k <= 6; k++) {
            Due.same("cupboard, the " + k + " of most worth", x.cupboard(k), (1 << 10) - (1 << 10 - k));
        }
        Due.same("cupboard, seven", x.cupboard(7), 1008 + 1);
        Due.same("cupboard, ten", x.cupboard(10), 1023);
        for (int i = 0; i < 6; i++) {
            Due.same("best for meaning " + i, x.best(i), 9 - i);
        }
        Due.same("no word is needed", x.words(), 0);
    }

    private static void words() {
        FilmNoises x = new FilmNoises();
        for (int n = 0; n <= 6; n++) {
            Due.same("words, nothing to hear", x.words(), (1 << n) - 1);
            x.meaning(0);
        }
        x.thing(0, 0);
        Due.same("words, six like ones", x.words(), 63);
        for (int i = 0; i < 5; i++) {
            x.want(i, 5, 1);
        }
        Due.same("words, the last by one more", x.words(), 31);
        x.want(5, 5, 1);
        x.want(0, 5, 0);
        Due.same("words, the first by one more", x.words(), 62);
        FilmNoises clear = clear();
        Due.same("words, the best is 0 for it, 1 for another", clear.words(), 2);
        clear.want(0, 1, 799);
        clear.want(0, 2, 799);
        Due.same("words, NO", clear.words(), 3);
        // The best for meaning 0 is thing 1, more for meaning 1; thing 0 is taken for nothing.
        clear.want(0, 2, 100);
        clear.want(1, 0, 700);
        clear.want(1, 4, 0);
        Due.same("words, the best of NO and one", clear.words(), 1);
    }

    /** Things 0, 1 and 2 are a little too soft, with 3 they are just 799 or more. */
    private static void beastAtMost() {
        FilmNoises x = new FilmNoises();
        for (int i = 0; i < 3; i++) {
            loud(x, 33, 1, 0);
        }
        meaning(x, 0, 799);
        Due.same("beast, 792", x.beast(0), 12);
        loud(x, 34, 1, 0);
        Due.same("beast, 800 is 799, nearer than 792", x.beast(0), 13);
        loud(x, 99, 1, 0);
        Due.same("beast, more is 799, too, and no nearer", x.beast(0), 13);
        x.want(0, 0, 798);
        Due.same("beast, 799 and 792 of 798", x.beast(0), 13);
        x.want(0, 0, 792);
        Due.same("beast, just 792", x.beast(0), 12);
        beastJustAtMost();
    }

    /** A thing that fades most and begins below 10 sounds in time 0 alone: with 792 and silence it makes 798, 799 or 800. */
    private static void beastJustAtMost() {
        FilmNoises x = new FilmNoises();
        loud(x, 0, 1, 0);
        loud(x, 99, 1, 0);
        x.thing(0, 9);
        x.thing(0, 9);
        meaning(x, 0, 799);
        x.level(2, 0, 6);
        x.level(3, 0, 8);
        Due.same("beast, 798, then 800 that is 799", x.beast(0), 13);
        x.level(3, 0, 7);
        Due.same("beast, 798, then 799", x.beast(0), 13);
        x.level(2, 0, 8);
        Due.same("beast, 800 that is 799, then 799, alike", x.beast(0), 12);
        x.level(2, 0, 7);
        x.level(3, 0, 8);
        Due.same("beast, 799, then 800 that is 799, alike", x.beast(0), 12);
        x.want(0, 0, 0);
        Due.same("beast, the softest", x.beast(0), 23);
    }

    private static void beastFirst() {
        FilmNoises x = new FilmNoises();
        for (int i = 0; i < 10; i++) {
            x.thing(0, 0);
        }
        for (int band = 0; band < 6; band++) {
            x.want(x.meaning(0), band, 3 * 8);
        }
        for (int band = 0; band < 6; band++) {
            Due.same("beast, of like ones the first three", x.beast(band), 12);
            for (int i = 7; i < 10; i++) {
                x.level(i, band, 1);
            }
            Due.same("beast, the last three, band " + band, x.beast(band), 789);
            for (int i = 7; i < 10; i++) {
                x.level(i, band, 0);
            }
            x.level(4, band, 3);
            Due.same("beast, the fourth with the first two, band " + band, x.beast(band), 14);
            x.level(4, band, 0);
        }
        x.level(0, 0, 99);
        Due.same("beast without the first", x.beast(0), 123);
    }

    /** Only taken, most and whose make THE FRACTION. */
    private static void fractionAlone() {
        FilmNoises x = RefusalsTest.fullFilm();
        String is = Due.fraction(x);
        x.may(1, 1, 1, 2);
        x.best(2);
        x.truer(2, 1, 0);
        x.serves(7, 2);
        x.cupboard(5);
        x.words();
        x.beast(3);
        x.order(-1);
        x.hands(0);
        x.mended(90, 3, 4, 5, 40, 20);
        x.likeness(3, 3, 3);
        x.image(0);
        x.clear();
        x.forget();
        x.from(1);
        x.from(0);
        Due.same("the fraction as it was", Due.fraction(x), is);
        x.most(2, 2, 1, 1);
        Due.holds("another fraction", !Due.fraction(x).equals(is));
    }
}
