/** Promises 28 to 35: one who walks with a picture, and whose house it was. */
final class WalkersTest {
    private WalkersTest() {
    }

    static void run() {
        promise28Lag();
        promise29Mended();
        promise30Steady();
        promise31House();
        promise32Habit();
        promise33See();
        promise34Forget();
        promise35Whose();
        promise35No();
    }

    private static void lags(int first, int learn, int bar, int slip, int... due) {
        FilmNoises x = new FilmNoises();
        for (int step = 0; step < due.length; step++) {
            String what = "lag " + first + " " + learn + " " + bar + " " + slip + " of step " + step;
            Due.same(what, x.lag(first, learn, bar, slip, step), due[step]);
        }
    }

    private static void promise28Lag() {
        lags(90, 3, 4, 5, 90, 65, 44, 30, 20, 19, 13, 9, 6, 9);
        lags(99, 1, 9, 20, 99, 20, 0, 0, 0, 0, 0, 0, 0, 0, 20, 0);
        lags(50, 9, 1, 20, 50, 65, 78, 90, 100, 109, 117);
        lags(8, 9, 2, 0, 8, 8, 8, 8);
        lags(0, 1, 2, 3, 0, 3, 0, 3, 0);
    }

    private static void promise29Mended() {
        FilmNoises x = new FilmNoises();
        // 90, 65, 44, 30, 20, 19, 13, 9, 6, 9 ..
        Due.same("mended, one step", x.mended(90, 3, 4, 5, 1, 89), 1);
        Due.same("as many tenths are no more", x.mended(90, 3, 4, 5, 1, 90), 0);
        Due.same("mended, five steps", x.mended(90, 3, 4, 5, 5, 20), 4);
        Due.same("mended, again below", x.mended(90, 3, 4, 5, 10, 8), 9);
        Due.same("mended, all steps", x.mended(50, 9, 1, 20, 40, 49), 40);
        Due.same("mended, no step", x.mended(0, 9, 1, 0, 40, 0), 0);
        Due.same("mended, every second step", x.mended(0, 1, 2, 3, 40, 2), 20);
        Due.same("mended, every second step of 39", x.mended(0, 1, 2, 3, 39, 2), 19);
    }

    private static void promise30Steady() {
        FilmNoises x = new FilmNoises();
        Due.same("steady at once", x.steady(90, 3, 4, 5, 90), 0);
        Due.same("steady from step 1", x.steady(90, 3, 4, 5, 89), 1);
        Due.same("steady from step 4", x.steady(90, 3, 4, 5, 20), 4);
        Due.same("steady never", x.steady(50, 9, 1, 20, 99), -1);
        Due.same("none is no refusal", x.status(0), 0);
        // 0, 3, 0, 3 ..: step 39 lags 3.
        Due.same("steady but for step 39", x.steady(0, 1, 2, 3, 2), -1);
        // BAR 3: steps 1, 4 .. 37 lag 3.
        Due.same("steady from step 38", x.steady(0, 1, 3, 3, 2), 38);
        Due.same("steady, as many tenths", x.steady(0, 1, 3, 3, 3), 0);
        Due.same("steady with nothing", x.steady(0, 1, 1, 0, 0), 0);
    }

    private static void promise31House() {
        FilmNoises x = new FilmNoises();
        for (int i = 0; i < 4; i++) {
            Due.same("house", x.house(), i);
        }
        long digest = x.digest();
        int[] status = Due.statusOf(x);
        Due.same("a fifth house", x.house(), -4);
        Due.refused("a fifth house", x, digest, status, 2);
        Due.same("houses", x.count(3), 4);
    }

    private static void promise32Habit() {
        FilmNoises x = new FilmNoises();
        Due.same("habit of none", x.habit(0, 0, 0), -2);
        x.house();
        x.house();
        for (int thing = 0; thing < 10; thing++) {
            Due.same("habit at first", x.habit(1, thing, 9 - thing), 1);
        }
        Due.same("habit behind", x.habit(1, 0, 3), 9);
        Due.same("habit of the other house", x.habit(0, 0, 3), 1);
    }

    private static void promise33See() {
        FilmNoises x = new FilmNoises();
        for (int i = 0; i < 8; i++) {
            Due.same("see", x.see(i + 2), i + 1);
        }
        long digest = x.digest();
        int[] status = Due.statusOf(x);
        Due.same("a ninth one seen", x.see(0), -4);
        Due.refused("a ninth one seen", x, digest, status, 2);
        Due.same("a ninth one seen, BAD first", x.see(10), -2);
    }

    private static void promise34Forget() {
        FilmNoises x = new FilmNoises();
        Due.same("forget nothing", x.forget(), 0);
        x.see(1);
        x.see(1);
        Due.same("forget", x.forget(), 2);
        Due.same("seen", x.count(4), 0);
        Due.same("see anew", x.see(3), 1);
    }

    private static void whose(FilmNoises x, int house, String due) {
        Due.same("whose " + house, x.whose(house), 1);
        Due.same("whose " + house, Due.fraction(x), due);
    }

    private static void promise35Whose() {
        FilmNoises x = new FilmNoises();
        Due.same("whose, no house", x.whose(0), -2);
        x.house();
        whose(x, 0, "1/1");
        x.house();
        x.house();
        whose(x, 2, "1/3");
        for (int thing = 0; thing < 10; thing++) {
            x.habit(2, thing, 0);
        }
        // Nothing is seen, so it counts 1 all the same.
        whose(x, 2, "1/3");
        x.see(4);
        whose(x, 2, "0/1");
        whose(x, 1, "1/2");
        x.habit(1, 4, 9);
        // 1 by 10 and 9 by 18.
        whose(x, 0, "1/6");
        whose(x, 1, "5/6");
        x.see(4);
        x.see(0);
        // 1 by 1000 and 81 by 5832, which is 1 by 72.
        whose(x, 0, "9/134");
        whose(x, 1, "125/134");
        greatNumbers();
    }

    private static void greatNumbers() {
        FilmNoises x = new FilmNoises();
        for (int house = 0; house < 4; house++) {
            x.house();
            for (int thing = 0; thing < 10; thing++) {
                x.habit(house, thing, 9);
            }
        }
        x.habit(1, 9, 8);
        x.habit(2, 9, 2);
        x.habit(3, 9, 0);
        for (int i = 0; i < 8; i++) {
            x.see(0);
        }
        // By 90, 89, 83, 81, to the eighth.
        java.math.BigInteger[] tens = new java.math.BigInteger[4];
        int[] all = {90, 89, 83, 81};
        for (int i = 0; i < 4; i++) {
            tens[i] = java.math.BigInteger.valueOf(all[i]).pow(8);
        }
        java.math.BigInteger below = java.math.BigInteger.ZERO;
        java.math.BigInteger product = tens[0].multiply(tens[1]).multiply(tens[2]).multiply(tens[3]);
        for (int i = 0; i < 4; i++) {
            below = below.add(product.divide(tens[i]));
        }
        for (int i = 0; i < 4; i++) {
            java.math.BigInteger above = product.divide(tens[i]);
            java.math.BigInteger common = above.gcd(below);
            whose(x, i, above.divide(common) + "/" + below.divide(common));
        }
        Due.holds("six limbs", x.sign(1) >= 5 && x.sign(2) >= 5);
    }

    private static void promise35No() {
        FilmNoises x = new FilmNoises();
        x.house();
        x.house();
        x.habit(0, 1, 0);
        x.habit(1, 2, 0);
        x.see(1);
        whose(x, 0, "0/1");
        whose(x, 1, "1/1");
        x.see(2);
        long digest = x.digest();
        int[] status = Due.statusOf(x);
        Due.same("whose, all are 0", x.whose(1), -3);
        Due.refused("whose, all are 0", x, digest, status, 1);
        Due.same("whose, BAD ahead of NO", x.whose(2), -2);
    }
}
