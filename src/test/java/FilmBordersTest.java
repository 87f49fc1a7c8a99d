import java.math.BigInteger;

/** Walkers, houses, images and the digest at the document's borders. */
final class FilmBordersTest {
    private FilmBordersTest() {
    }

    static void run() {
        lags();
        lagsCut();
        slips();
        mended();
        steady();
        seen();
        habits();
        nothingSeen();
        allTenAreZero();
        whoseInLowestTerms();
        greatestFractions();
        imageOfEachPart();
        imageOfClasses();
        imagesApart();
        digestOfAFullFilm();
        digestWraps();
        limbs();
        statusOfEach();
        counts();
    }

    private static void lags() {
        FilmNoises x = new FilmNoises();
        for (int first : new int[] {0, 1, 99}) {
            for (int learn = 1; learn <= 9; learn++) {
                for (int bar = 1; bar <= 9; bar++) {
                    Due.same("ahead of step 0", x.lag(first, learn, bar, 20, 0), first);
                    // 0 is a BAR-th step of every BAR.
                    Due.same("behind step 0", x.lag(first, learn, bar, 20, 1), first - first / learn + 20);
                    Due.same("no slip", x.lag(first, learn, bar, 0, 1), first - first / learn);
                }
            }
        }
        Due.same("the last step", x.lag(99, 9, 1, 20, 39), lagOf(99, 9, 1, 20, 39));
        Due.same("the last step of BAR 9", x.lag(0, 2, 9, 20, 39), 6);
        Due.same("step 40", x.lag(0, 2, 9, 20, 40), -2);
    }

    private static int lagOf(int first, int learn, int bar, int slip, int step) {
        int lag = first;
        for (int s = 0; s < step; s++) {
            lag = lag - lag / learn + (s % bar == 0 ? slip : 0);
        }
        return lag;
    }

    private static void lagsCut() {
        FilmNoises x = new FilmNoises();
        for (int learn = 1; learn <= 9; learn++) {
            Due.same("less than a " + learn + "-th is none", x.lag(learn - 1, learn, 9, 0, 1), learn - 1);
            Due.same("a " + learn + "-th is 1", x.lag(learn, learn, 9, 0, 1), learn - 1);
            Due.same("two less 1 is 1", x.lag(2 * learn - 1, learn, 9, 0, 1), learn == 1 ? 0 : 2 * learn - 2);
        }
        // The slip comes behind what is less: half of 10 is 5 and 20 more.
        Due.same("slip behind it", x.lag(10, 2, 1, 20, 1), 25);
        Due.same("slip behind it, learnt next", x.lag(10, 2, 2, 20, 2), 13);
    }

    /** With LEARN 1 all is learnt at once, so that the lag of a step is the slip of the one ahead. */
    private static void slips() {
        FilmNoises x = new FilmNoises();
        for (int bar = 1; bar <= 9; bar++) {
            for (int step = 1; step < 40; step++) {
                int due = (step - 1) % bar == 0 ? 7 : 0;
                Due.same("bar " + bar + ", step " + step, x.lag(99, 1, bar, 7, step), due);
            }
        }
        Due.same("slip 20", x.lag(0, 1, 1, 20, 39), 20);
        Due.same("slip 21", x.lag(0, 1, 1, 21, 39), -2);
        Due.same("slip -1", x.lag(0, 1, 1, -1, 39), -2);
    }

    private static void mended() {
        FilmNoises x = new FilmNoises();
        Due.same("mended, first step alone", x.mended(99, 1, 1, 0, 1, 98), 1);
        Due.same("mended, just as much is not more", x.mended(99, 1, 1, 0, 1, 99), 0);
        Due.same("mended, all 40", x.mended(99, 9, 1, 20, 40, 98), 40);
        Due.same("mended, 39 of 40", x.mended(0, 1, 1, 7, 40, 6), 39);
        Due.same("mended, 38 of 39", x.mended(0, 1, 1, 7, 39, 6), 38);
        Due.same("mended, just as much in 40", x.mended(0, 1, 1, 7, 40, 7), 0);
        Due.same("mended, more than 0", x.mended(1, 9, 1, 0, 40, 0), 40);
        Due.same("mended, none is more than 0", x.mended(0, 9, 1, 0, 40, 0), 0);
        for (int n = 1; n <= 40; n++) {
            // 7 in steps 1, 4 .. 37.
            Due.same("mended of " + n, x.mended(0, 1, 3, 7, n, 6), (n + 1) / 3);
        }
    }

    private static void steady() {
        FilmNoises x = new FilmNoises();
        // 37 lags 21, 38 lags 11, 39 lags 6.
        Due.same("steady from 39", x.steady(0, 2, 9, 20, 6), 39);
        Due.same("steady from 39, too", x.steady(0, 2, 9, 20, 10), 39);
        Due.same("steady from 38", x.steady(0, 2, 9, 20, 11), 38);
        Due.same("steady from 38, too", x.steady(0, 2, 9, 20, 20), 38);
        Due.same("steady from 0", x.steady(0, 2, 9, 20, 21), 0);
        Due.same("steady never, for step 39 alone", x.steady(0, 2, 9, 20, 5), -1);
        Due.same("steady never, BAR 2", x.steady(0, 1, 2, 7, 6), -1);
        Due.same("steady from 0, just as much", x.steady(99, 9, 1, 0, 99), 0);
        Due.same("steady from 1", x.steady(99, 9, 1, 0, 98), 1);
        Due.same("steady at 0 tenths", x.steady(99, 1, 9, 0, 0), 1);
        Due.same("steady never at 0 tenths", x.steady(1, 2, 9, 0, 0), -1);
        Due.same("steady at 99 tenths", x.steady(99, 1, 9, 20, 99), 0);
        Due.same("never at 99 tenths", x.steady(99, 9, 1, 20, 99), -1);
        Due.same("none is no refusal", x.status(0) + x.status(1) + x.status(2), 0);
    }

    private static void whose(String what, FilmNoises x, int house, String due) {
        Due.same(what, x.whose(house), 1);
        Due.same(what, Due.fraction(x), due);
    }

    /** Things 0 .. 9 are seen though none is there; all eight count, the last one too. */
    private static void seen() {
        for (int thing = 0; thing < 10; thing++) {
            FilmNoises x = new FilmNoises();
            x.house();
            x.house();
            Due.same("seen " + thing, x.see(thing), 1);
            Due.same("habit of " + thing, x.habit(1, thing, 0), 1);
            whose("never in the second house, thing " + thing, x, 1, "0/1");
            whose("always in the first house, thing " + thing, x, 0, "1/1");
        }
        FilmNoises x = new FilmNoises();
        x.house();
        x.house();
        x.habit(1, 9, 0);
        for (int i = 1; i <= 7; i++) {
            Due.same("see", x.see(0), i);
        }
        // 1 by 10 and 1 by 9, to the seventh: 9^7 and 10^7.
        whose("seven seen", x, 0, "4782969/14782969");
        Due.same("see the eighth", x.see(9), 8);
        whose("the eighth tells", x, 0, "1/1");
        whose("the eighth tells the other", x, 1, "0/1");
        Due.same("a ninth", x.see(0), -4);
        Due.same("forget eight", x.forget(), 8);
        Due.same("forget none", x.forget(), 0);
        whose("forgotten", x, 1, "1/2");
        Due.same("see anew", x.see(9), 1);
    }

    private static void habits() {
        FilmNoises x = new FilmNoises();
        for (int house = 0; house < 4; house++) {
            x.house();
            for (int thing = 0; thing < 10; thing++) {
                Due.same("1 at first", x.habit(house, thing, 9), 1);
                Due.same("9 at most", x.habit(house, thing, 0), 9);
                Due.same("0 at least", x.habit(house, thing, house + 1), 0);
                Due.same("habit 10", x.habit(house, thing, 10), -2);
                Due.same("habit -1", x.habit(house, thing, -1), -2);
            }
            Due.same("habit of thing 10", x.habit(house, 10, 1), -2);
            Due.same("habit of thing -1", x.habit(house, -1, 1), -2);
        }
        for (int house = 0; house < 4; house++) {
            for (int thing = 0; thing < 10; thing++) {
                Due.same("each its own", x.habit(house, thing, 1), house + 1);
            }
        }
    }

    private static void nothingSeen() {
        FilmNoises x = new FilmNoises();
        for (int n = 1; n <= 4; n++) {
            x.house();
            x.habit(n - 1, 3, 2 * n);
            for (int house = 0; house < n; house++) {
                whose("nothing seen, house " + house + " of " + n, x, house, "1/" + n);
            }
        }
    }

    private static void noHabits(FilmNoises x, int house) {
        for (int thing = 0; thing < 10; thing++) {
            x.habit(house, thing, 0);
        }
    }

    private static void allTenAreZero() {
        FilmNoises x = new FilmNoises();
        x.house();
        noHabits(x, 0);
        whose("all ten 0, nothing seen", x, 0, "1/1");
        x.see(0);
        long digest = x.digest();
        int[] status = Due.statusOf(x);
        Due.same("all ten 0, the only house", x.whose(0), -3);
        Due.refused("all ten 0, the only house", x, digest, status, 1);
        x.house();
        whose("all ten 0, another house", x, 0, "0/1");
        whose("the other house", x, 1, "1/1");
        x.habit(0, 5, 9);
        whose("one habit, but not of what was seen", x, 0, "0/1");
        x.habit(0, 0, 1);
        // 1 by 10 and 1 by 10.
        whose("1 of 10 and 1 of 10", x, 0, "1/2");
        x.habit(0, 5, 0);
        whose("1 of 1 and 1 of 10", x, 0, "10/11");
        noHabits(x, 0);
        noHabits(x, 1);
        digest = x.digest();
        status = Due.statusOf(x);
        Due.same("all ten 0, both houses", x.whose(1), -3);
        Due.refused("all ten 0, both houses", x, digest, status, 1);
        x.forget();
        whose("all ten 0, both houses, nothing seen", x, 1, "1/2");
    }

    private static void whoseInLowestTerms() {
        // Four houses with 9 of what is seen, one of 90 habits together, three of 89.
        FilmNoises x = new FilmNoises();
        for (int house = 0; house < 4; house++) {
            x.house();
            for (int thing = 0; thing < 10; thing++) {
                x.habit(house, thing, 9);
            }
        }
        x.habit(1, 9, 8);
        x.habit(2, 9, 8);
        x.habit(3, 9, 8);
        x.see(0);
        // 1 by 10 and three of 9 by 89: 89 of 359; the primes of the numbers below go away.
        whose("habits of 90 and 89", x, 0, "89/359");
        whose("habits of 89", x, 1, "90/359");
        x.habit(0, 9, 8);
        whose("four alike, a great prime goes away", x, 3, "1/4");
        for (int i = 0; i < 7; i++) {
            x.see(i);
        }
        whose("four alike, eight seen", x, 2, "1/4");
    }

    private static BigInteger power(int v, int n) {
        return BigInteger.valueOf(v).pow(n);
    }

    private static void greatestFractions() {
        // Eight hearers' worth of limbs: 90, 89, 88, 87 to the eighth, none of them in common.
        FilmNoises x = new FilmNoises();
        for (int house = 0; house < 4; house++) {
            x.house();
            for (int thing = 0; thing < 10; thing++) {
                x.habit(house, thing, 9);
            }
            x.habit(house, 9, 9 - house);
        }
        for (int i = 0; i < 8; i++) {
            x.see(i);
        }
        BigInteger all = BigInteger.ZERO;
        BigInteger[] parts = new BigInteger[4];
        for (int house = 0; house < 4; house++) {
            parts[house] = BigInteger.ONE;
            for (int other = 0; other < 4; other++) {
                parts[house] = other == house ? parts[house] : parts[house].multiply(power(90 - other, 8));
            }
            all = all.add(parts[house]);
        }
        for (int house = 0; house < 4; house++) {
            BigInteger common = parts[house].gcd(all);
            whose("great numbers, house " + house, x, house, parts[house].divide(common) + "/" + all.divide(common));
        }
        // Three houses of one habit each that is seen: 1, 1, 1 and 9^8 by 90^8, which is 10^8.
        for (int house = 0; house < 3; house++) {
            noHabits(x, house);
            x.habit(house, 0, 1);
        }
        x.forget();
        for (int i = 0; i < 8; i++) {
            x.see(0);
        }
        x.habit(3, 9, 9);
        whose("1 by 10 to the eighth", x, 3, "1/300000001");
        whose("three sure ones", x, 0, "100000000/300000001");
    }

    private static FilmNoises furnished() {
        FilmNoises x = new FilmNoises();
        x.thing(1, 2);
        x.level(0, 3, 44);
        x.meaning(5);
        x.want(0, 2, 333);
        x.house();
        x.habit(0, 6, 7);
        x.see(8);
        Due.type(x, "far 7;");
        return x;
    }

    private static void comesBack(String what, int i, java.util.function.Consumer<FilmNoises> change) {
        FilmNoises x = furnished();
        long digest = x.digest();
        Due.same(what + ", image", x.image(i), 1);
        change.accept(x);
        Due.holds(what + " is another film", x.digest() != digest);
        Due.same(what + ", from", x.from(i), 1);
        Due.same(what + " comes back", x.digest(), digest);
        change.accept(x);
        Due.same(what + ", from again", x.from(i), 1);
        Due.same(what + " comes back again", x.digest(), digest);
    }

    private static void imageOfEachPart() {
        for (int i = 0; i < 2; i++) {
            comesBack("a thing", i, x -> x.thing(4, 9));
            comesBack("a level", i, x -> x.level(0, 3, 45));
            comesBack("a meaning", i, x -> x.meaning(0));
            comesBack("a want", i, x -> x.want(0, 5, 1));
            for (int what = 0; what < 5; what++) {
                int number = what;
                comesBack("put " + what, i, x -> x.put(number, 9));
            }
            comesBack("bytes", i, x -> x.type(0, 1));
            comesBack("a clear reel", i, FilmNoises::clear);
            comesBack("another reel", i, x -> x.type(x.clear(), 6));
            comesBack("a house", i, FilmNoises::house);
            comesBack("a habit", i, x -> x.habit(0, 0, 9));
            comesBack("a thing seen", i, x -> x.see(0));
            comesBack("what is forgotten", i, FilmNoises::forget);
            comesBack("another thing seen", i, x -> x.see(x.forget()));
        }
    }

    /** A thing or meaning made behind an older image stands where the newer image's own one stood. */
    private static void imageOfClasses() {
        FilmNoises x = new FilmNoises();
        x.image(1);
        x.thing(3, 0);
        x.meaning(60);
        x.house();
        x.see(2);
        x.type('x', 1);
        x.level(0, 0, 30);
        long digest = x.digest();
        x.image(0);
        x.from(1);
        Due.same("empty again", x.digest(), new FilmNoises().digest());
        x.thing(2, 9);
        x.meaning(40);
        x.house();
        x.habit(0, 9, 0);
        x.see(7);
        x.type('y', 1);
        Due.same("made anew", x.value(0, 0, 0, 0), 3);
        x.from(0);
        Due.same("the class and FADES are the image's", x.value(0, 0, 7, 0), 60);
        Due.same("all is the image's", x.digest(), digest);
        x.from(1);
        Due.same("empty once more", x.digest(), new FilmNoises().digest());
        Due.same("a level anew is 0", x.thing(0, 0) + x.level(0, 0, 1), 0);
        Due.same("a want anew is 0", x.meaning(0) + x.want(0, 0, 1), 0);
        Due.same("a habit anew is 1", x.house() + x.habit(0, 9, 0), 1);
    }

    /** Images keep no images, no FRACTION and no STATUS. */
    private static void imagesApart() {
        FilmNoises x = furnished();
        x.image(0);
        long zero = x.digest();
        x.thing(0, 0);
        x.image(1);
        long one = x.digest();
        x.from(0);
        Due.same("the other image is not gone", x.from(1), 1);
        Due.same("the other image", x.digest(), one);
        Due.same("nor is the first", x.from(0), 1);
        Due.same("the first image", x.digest(), zero);
        x.image(1);
        x.house();
        x.from(1);
        Due.same("one over the other", x.digest(), zero);
        x.image(0);
        x.whose(0);
        String is = Due.fraction(x);
        x.thing(9, 9);
        x.from(0);
        Due.same("the fraction is not the image's", Due.fraction(x), is);
        Due.same("another fraction", is, "1/1");
        Due.same("status is not the image's", x.status(0), 1);
        FilmNoises none = new FilmNoises();
        none.image(0);
        none.thing(0, 0);
        none.from(0);
        Due.same("an image keeps that no other was kept: no", none.from(1), -3);
        none.image(1);
        none.from(0);
        Due.same("an image kept behind it stays", none.from(1), 1);
    }

    private static long on(long h, long... all) {
        long digest = h;
        for (long v : all) {
            digest = 31 * digest + v;
        }
        return digest;
    }

    private static void digestOfAFullFilm() {
        FilmNoises x = new FilmNoises();
        long h = on(593, 10, 6, 200, 4, 8);
        for (int i = 0; i < 10; i++) {
            x.thing((2 * i + 1) % 5, (i + 3) % 10);
            h = on(h, (2 * i + 1) % 5, (i + 3) % 10);
            for (int band = 0; band < 6; band++) {
                x.level(i, band, 10 * i + band);
                h = on(h, 10 * i + band);
            }
        }
        for (int i = 0; i < 6; i++) {
            x.meaning(99 - i);
            h = on(h, 99 - i);
            for (int band = 0; band < 6; band++) {
                x.want(i, band, 799 - 10 * i - band);
                h = on(h, 799 - 10 * i - band);
            }
        }
        int[] puts = {2000, 9, 8, 99, 98};
        for (int i = 0; i < 5; i++) {
            x.put(i, puts[i]);
            h = on(h, puts[i]);
        }
        for (int i = 0; i < 200; i++) {
            x.type(255 - i, 1);
            h = on(h, 255 - i);
        }
        for (int i = 0; i < 4; i++) {
            x.house();
            for (int thing = 0; thing < 10; thing++) {
                x.habit(i, thing, (i + thing) % 10);
                h = on(h, (i + thing) % 10);
            }
        }
        for (int i = 0; i < 8; i++) {
            x.see(9 - i);
            h = on(h, 9 - i);
        }
        Due.same("digest of a full film", x.digest(), on(h, 0, 0, 1, 1));
        x.image(1);
        Due.same("images are not in it", x.digest(), on(h, 0, 0, 1, 1));
        x.status(3);
        Due.same("status is not in it", x.digest(), on(h, 0, 0, 1, 1));
        Due.same("digest again", x.digest(), on(h, 0, 0, 1, 1));
    }

    /** As a long does: the exact sum is far greater, and its lowest 64 bits are the digest. */
    private static void digestWraps() {
        int[] all = {0, 0, 0, 0, 0, 500, 3, 3, 20, 30, 0, 0, 1, 1};
        BigInteger exact = BigInteger.valueOf(593);
        for (int v : all) {
            exact = exact.multiply(BigInteger.valueOf(31)).add(BigInteger.valueOf(v));
        }
        Due.holds("beyond a long", exact.bitLength() > 64);
        Due.same("wraps around", new FilmNoises().digest(), exact.longValue());
    }

    private static void limbs() {
        FilmNoises x = new FilmNoises();
        x.house();
        x.house();
        for (int house = 0; house < 2; house++) {
            noHabits(x, house);
            x.habit(house, 0, 1);
        }
        x.habit(1, 1, 7);
        for (int i = 0; i < 8; i++) {
            x.see(0);
        }
        // 1 and 1 by 8 to the eighth, which is 2^24: 1 by 16777217.
        whose("2 to the 24th", x, 0, "16777216/16777217");
        Due.same("one limb above", x.sign(1), 1);
        Due.same("a sign of one limb", x.sign(0), 1);
        Due.same("limb -1", x.limb(0, -1), -2);
        Due.same("limb 1", x.limb(0, 1), -1);
        Due.same("limb of another which", x.limb(-1, 0), -2);
        x.habit(1, 2, 8);
        x.habit(1, 0, 9);
        x.habit(1, 3, 8);
        // 9 by 32, to the eighth: 2^40 by 2^40 and 3^16; 2^40 is 1024 times the base.
        whose("2 to the 40th", x, 0, "1099511627776/1099554674497");
        Due.same("a lowest limb of 0", x.limb(0, 0), 0);
        Due.same("the highest limb", x.limb(0, 1), 1024);
        Due.same("3 to the 16th", x.limb(1, 0), 43046721);
        Due.same("no third limb", x.limb(0, 2), -1);
        Due.same("no limb by far", x.limb(1, Due.GREATEST), -1);
        Due.same("nor the least int", x.limb(1, Due.LEAST), -2);
    }

    private static void statusOfEach() {
        FilmNoises x = new FilmNoises();
        for (int i = 1; i <= 60; i++) {
            x.level(0, 0, 0);
            x.from(i % 2);
            Due.same("BAD", x.status(0), i);
            Due.same("NO", x.status(1), i);
            Due.same("FULL", x.status(2), 0);
        }
        for (int i = 0; i < 4; i++) {
            x.house();
        }
        for (int i = 1; i <= 60; i++) {
            x.house();
            Due.same("FULL", x.status(2), i);
        }
        Due.same("BAD as it was", x.status(0), 60);
        Due.same("NO as it was", x.status(1), 60);
    }

    private static void counts() {
        FilmNoises x = RefusalsTest.fullFilm();
        int[] due = {10, 6, 200, 4, 8};
        for (int what = 0; what < 5; what++) {
            Due.same("count of all, " + what, x.count(what), due[what]);
        }
        x.from(0);
        int[] ahead = {10, 1, 0, 0, 1};
        for (int what = 0; what < 5; what++) {
            Due.same("count of the image, " + what, x.count(what), ahead[what]);
        }
        Due.same("count of 5", x.count(5), -2);
        Due.same("count of -1", x.count(-1), -2);
    }
}
