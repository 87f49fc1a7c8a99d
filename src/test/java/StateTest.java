/** Promises 36 to 42: the fraction, images, what was refused, how many there are, the digest. */
final class StateTest {
    private StateTest() {
    }

    static void run() {
        promise36Sign();
        promise37Limb();
        promise38Image();
        promise39From();
        promise39Anew();
        promise40Status();
        promise41Count();
        promise42Digest();
        constants();
    }

    private static FilmNoises withMost(int want, int n, int k) {
        FilmNoises x = new FilmNoises();
        x.thing(0, 0);
        x.meaning(0);
        x.meaning(0);
        x.want(1, 0, want);
        x.most(0, 0, n, k);
        return x;
    }

    private static void promise36Sign() {
        FilmNoises x = new FilmNoises();
        Due.same("sign at first", x.sign(0), 0);
        Due.same("no limbs above at first", x.sign(1), 0);
        Due.same("one limb below at first", x.sign(2), 1);
        x = withMost(3, 9, 9);
        Due.same("sign", x.sign(0), 1);
        Due.same("limbs above", x.sign(1), 3);
        Due.same("limbs below", x.sign(2), 4);
        Due.same("sign of another", x.sign(3), -2);
        // 1000 by 1999, thrice: 10^9 is below the base, 1999^3 above it.
        x = withMost(1, 3, 3);
        Due.same("one limb above", x.sign(1), 1);
        Due.same("two limbs below", x.sign(2), 2);
    }

    private static void promise37Limb() {
        FilmNoises x = new FilmNoises();
        Due.same("none above at first", x.limb(0, 0), -1);
        Due.same("1 below at first", x.limb(1, 0), 1);
        Due.same("no second one below", x.limb(1, 1), -1);
        Due.same("none is no refusal", x.status(0), 0);
        x = withMost(1, 3, 3);
        // 1999^3 is 7988005999, which is 7 times 1073741824 and 471813231.
        Due.same("above", x.limb(0, 0), 1000000000);
        Due.same("the lowest first", x.limb(1, 0), 471813231);
        Due.same("the highest last", x.limb(1, 1), 7);
        Due.same("not so many", x.limb(1, 2), -1);
        Due.same("not so many by far", x.limb(0, Due.GREATEST), -1);
        Due.same("below 0", x.limb(0, -1), -2);
        Due.same("neither above nor below", x.limb(2, 0), -2);
    }

    /** Something of everything. */
    private static FilmNoises full() {
        FilmNoises x = Due.reel(2, "at 3 1 2 1;far 2;");
        x.level(1, 2, 34);
        x.meaning(7);
        x.meaning(0);
        x.want(0, 4, 12);
        x.put(0, 77);
        x.put(1, 5);
        x.put(2, 2);
        x.put(3, 9);
        x.put(4, 8);
        x.house();
        x.habit(0, 3, 6);
        x.see(9);
        x.see(3);
        return x;
    }

    private static void changeAll(FilmNoises x) {
        x.thing(4, 4);
        x.level(1, 2, 35);
        x.meaning(1);
        x.want(0, 4, 13);
        for (int what = 0; what < 5; what++) {
            x.put(what, 1);
        }
        x.clear();
        Due.type(x, "zzz");
        x.habit(0, 3, 5);
        x.house();
        x.forget();
        x.see(0);
    }

    private static void promise38Image() {
        FilmNoises x = full();
        long digest = x.digest();
        Due.same("image", x.image(0), 1);
        Due.same("image changes nothing", x.digest(), digest);
        changeAll(x);
        Due.same("image of another", x.image(1), 1);
        x.from(0);
        Due.same("the first image", x.digest(), digest);
        changeAll(x);
        Due.same("image over an image", x.image(0), 1);
        long behind = x.digest();
        x.clear();
        x.from(0);
        Due.same("the newer one", x.digest(), behind);
        Due.same("a third image", x.image(2), -2);
    }

    private static void promise39From() {
        FilmNoises x = full();
        Due.same("from none", x.from(0), -3);
        Due.same("from a third one", x.from(2), -2);
        x.image(1);
        long digest = x.digest();
        int[] status = Due.statusOf(x);
        Due.same("from the other", x.from(0), -3);
        Due.refused("from the other", x, digest, status, 1);
        changeAll(x);
        Due.holds("it is another film", x.digest() != digest);
        Due.same("from", x.from(1), 1);
        Due.same("as it was", x.digest(), digest);
        Due.same("its reel", x.places(), 1);
        changeAll(x);
        Due.same("from twice", x.from(1), 1);
        Due.same("as it was, twice", x.digest(), digest);
        x.thing(5, 0);
        status = Due.statusOf(x);
        Due.same("the fraction is set", x.whose(0), 1);
        x.from(1);
        Due.same("the fraction stays", Due.fraction(x), "1/1");
        Due.same("status stays", x.status(0), status[0]);
        x.image(0);
        changeAll(x);
        x.from(0);
        Due.same("images stay", x.from(1), 1);
    }

    /** What comes behind an image's end begins anew. */
    private static void promise39Anew() {
        FilmNoises x = new FilmNoises();
        x.image(0);
        x.thing(1, 1);
        x.level(0, 3, 9);
        x.meaning(4);
        x.want(0, 3, 9);
        x.house();
        x.habit(0, 3, 9);
        x.from(0);
        Due.same("a thing anew", x.thing(0, 0), 0);
        Due.same("its level", x.level(0, 3, 1), 0);
        Due.same("a meaning anew", x.meaning(0), 0);
        Due.same("its want", x.want(0, 3, 1), 0);
        Due.same("a house anew", x.house(), 0);
        Due.same("its habit", x.habit(0, 3, 1), 1);
    }

    private static void promise40Status() {
        FilmNoises x = new FilmNoises();
        x.thing(9, 9);
        x.thing(-1, 0);
        x.from(0);
        for (int i = 0; i < 7; i++) {
            x.house();
        }
        Due.same("BAD", x.status(0), 2);
        Due.same("NO", x.status(1), 1);
        Due.same("FULL", x.status(2), 3);
        Due.same("another what", x.status(3), -1);
        Due.same("counts as BAD", x.status(0), 3);
        Due.same("one below 0", x.status(-1), -1);
        Due.same("the least int", x.status(Due.LEAST), -1);
        Due.same("count as BAD", x.status(0), 5);
        Due.same("-10", x.may(0, 0, 0, 0), -10);
        Due.same("counts as BAD, too", x.status(0), 6);
        Due.same("NO as it was", x.status(1), 1);
        Due.same("FULL as it was", x.status(2), 3);
    }

    private static void promise41Count() {
        FilmNoises x = full();
        Due.same("things", x.count(0), 2);
        Due.same("meanings", x.count(1), 2);
        Due.same("bytes", x.count(2), 17);
        Due.same("houses", x.count(3), 1);
        Due.same("seen", x.count(4), 2);
        Due.same("another", x.count(5), -2);
        Due.same("one below 0", x.count(-1), -2);
    }

    private static long on(long h, long... all) {
        long digest = h;
        for (long v : all) {
            digest = 31 * digest + v;
        }
        return digest;
    }

    private static void promise42Digest() {
        long h = on(593, 0, 0, 0, 0, 0, 500, 3, 3, 20, 30, 0, 0, 1, 1);
        Due.same("digest of a new object", new FilmNoises().digest(), h);
        FilmNoises x = full();
        x.whose(0);
        x.type(0xff80, 2);
        h = on(593, 2, 2, 19, 1, 2);
        h = on(h, 0, 0, 0, 0, 0, 0, 0, 0);
        h = on(h, 0, 0, 0, 0, 34, 0, 0, 0);
        h = on(h, 7, 0, 0, 0, 0, 12, 0);
        h = on(h, 0, 0, 0, 0, 0, 0, 0);
        h = on(h, 77, 5, 2, 9, 8);
        for (char sign : "at 3 1 2 1;far 2;\u00ff\u0080".toCharArray()) {
            h = on(h, sign);
        }
        h = on(h, 1, 1, 1, 6, 1, 1, 1, 1, 1, 1);
        h = on(h, 9, 3);
        h = on(h, 1, 1, 1, 1, 1);
        Due.same("digest of all", x.digest(), h);
        FilmNoises y = withMost(1, 3, 3);
        h = on(593, 1, 2, 0, 0, 0);
        h = on(h, 0, 0, 0, 0, 0, 0, 0, 0);
        h = on(h, 0, 0, 0, 0, 0, 0, 0);
        h = on(h, 0, 1, 0, 0, 0, 0, 0);
        h = on(h, 500, 3, 3, 20, 30);
        h = on(h, 1, 1, 2, 1000000000, 471813231, 7);
        Due.same("digest of limbs", y.digest(), h);
        y.thing(9, 9);
        y.image(0);
        Due.same("neither images nor status", y.digest(), h);
    }

    private static void constants() {
        Due.same("NONE", FilmNoises.NONE, -1);
        Due.same("BAD", FilmNoises.BAD, -2);
        Due.same("NO", FilmNoises.NO, -3);
        Due.same("FULL", FilmNoises.FULL, -4);
    }
}
