import java.util.function.Consumer;

/** What a call leaves as it was: all but what the document says that it changes. What is due is told by hand. */
final class LeavesTest {
    private static final String REEL = "at 1 2 3 4;far 2;at 3 0 1 2;at 3 1 0 0;";
    private static final int[] SEEN = {1, 8};

    private LeavesTest() {
    }

    static void run() {
        readingThings();
        readingReels();
        readingTheRest();
        setBack();
        oneMore();
        fractions();
        images();
    }

    /** Something of all, two images unlike it, and refusals of each kind. */
    private static FilmNoises furnished() {
        FilmNoises x = new FilmNoises();
        x.see(4);
        x.image(1);
        for (int i = 0; i < 8; i++) {
            x.see(0);
        }
        x.forget();
        for (int i = 0; i < 3; i++) {
            x.thing(i, 1 + i);
            x.level(i, 2 * i, 40 + 7 * i);
        }
        for (int i = 0; i < 2; i++) {
            x.meaning(3 + 11 * i);
            x.want(i, 2 * i, 200 + 100 * i);
            x.house();
            x.habit(i, 1 + 7 * i, 5 + i);
        }
        Due.type(x, "zz");
        x.places();
        x.image(0);
        x.clear();
        Due.type(x, REEL);
        for (int what = 0; what < 5; what++) {
            x.put(what, 7);
        }
        for (int thing : SEEN) {
            x.see(thing);
        }
        x.level(3, 0, 0);
        x.count(9);
        x.whose(0);
        return x;
    }

    private static void refusals(String what, FilmNoises x) {
        Due.same(what + ", BAD", x.status(0), 2);
        Due.same(what + ", NO", x.status(1), 1);
        Due.same(what + ", FULL", x.status(2), 1);
    }

    private static long on(long h, long... all) {
        long digest = h;
        for (long v : all) {
            digest = 31 * digest + v;
        }
        return digest;
    }

    private static long things(long h, int count) {
        long digest = h;
        for (int i = 0; i < count; i++) {
            digest = on(digest, i, 1 + i);
            for (int band = 0; band < 6; band++) {
                digest = on(digest, i < 3 && band == 2 * i ? 40 + 7 * i : 0);
            }
        }
        return digest;
    }

    private static long meanings(long h, int count) {
        long digest = h;
        for (int i = 0; i < count; i++) {
            digest = on(digest, 3 + 11 * i);
            for (int band = 0; band < 6; band++) {
                digest = on(digest, i < 2 && band == 2 * i ? 200 + 100 * i : 0);
            }
        }
        return digest;
    }

    private static long houses(long h, int count) {
        long digest = h;
        for (int i = 0; i < count; i++) {
            for (int thing = 0; thing < 10; thing++) {
                digest = on(digest, i < 2 && thing == 1 + 7 * i ? 5 + i : 1);
            }
        }
        return digest;
    }

    private static long digest(int things, int meanings, int houses, String text, long[] puts, int... seen) {
        long h = on(593, things, meanings, text.length(), houses, seen.length);
        h = on(meanings(things(h, things), meanings), puts);
        for (char sign : text.toCharArray()) {
            h = on(h, sign);
        }
        h = houses(h, houses);
        for (int thing : seen) {
            h = on(h, thing);
        }
        // 5 by 14 and 1 by 14 in house 0, 1 by 15 and 6 by 15 in the other one: 375 of 767.
        return on(h, 1, 1, 1, 375, 767);
    }

    private static long digest(int things, int meanings, int houses) {
        return digest(things, meanings, houses, REEL, new long[] {7, 7, 7, 7, 7}, SEEN);
    }

    private static final long ALL = digest(3, 2, 2);
    private static final long[] IMAGES = {
        digest(3, 2, 2, "zz", new long[] {500, 3, 3, 20, 30}), digest(0, 0, 0, "", new long[] {500, 3, 3, 20, 30}, 4)};

    private static void is(String what, FilmNoises x, long all, long imageZero, long imageOne) {
        Due.same(what + ", all", x.digest(), all);
        refusals(what, x);
        Due.same(what + ", image 1 is kept", x.from(1), 1);
        Due.same(what + ", image 1", x.digest(), imageOne);
        Due.same(what + ", image 0 is kept", x.from(0), 1);
        Due.same(what + ", image 0", x.digest(), imageZero);
        refusals(what + ", images", x);
    }

    private static void leaves(String what, Consumer<FilmNoises> call) {
        FilmNoises x = furnished();
        Due.same(what + ", ahead of it", x.digest(), ALL);
        call.accept(x);
        is(what, x, ALL, IMAGES[0], IMAGES[1]);
    }

    private static void readingThings() {
        leaves("value", x -> x.value(1, 2, 3, 4));
        leaves("loud", x -> x.loud(2, 4, 1));
        leaves("likeness", x -> x.likeness(2, 1, 3));
        leaves("may", x -> x.may(1, 1, 1, 3));
        leaves("may, none", x -> x.may(0, 0, 99, 99));
        leaves("best", x -> x.best(1));
        leaves("truer", x -> x.truer(0, 2, 1));
        leaves("serves", x -> x.serves(5, 1));
        leaves("cupboard", x -> x.cupboard(2));
        leaves("words", FilmNoises::words);
        leaves("beast", x -> x.beast(0));
    }

    private static void readingReels() {
        leaves("fault", FilmNoises::fault);
        leaves("places", FilmNoises::places);
        leaves("hidden", x -> x.hidden(1, 7));
        leaves("unheard", FilmNoises::unheard);
        leaves("kept", FilmNoises::kept);
        leaves("order, seconds", x -> x.order(-1));
        leaves("order", x -> x.order(2));
        leaves("order, not so many", x -> x.order(3));
        leaves("hands", x -> x.hands(0));
        leaves("split", x -> x.hands(1));
    }

    private static void readingTheRest() {
        leaves("lag", x -> x.lag(9, 2, 3, 4, 5));
        leaves("mended", x -> x.mended(9, 2, 3, 4, 5, 6));
        leaves("steady", x -> x.steady(9, 2, 3, 4, 5));
        for (int i = 0; i < 5; i++) {
            int what = i;
            leaves("count " + i, x -> x.count(what));
            if (i < 3) {
                leaves("sign " + i, x -> x.sign(what));
                leaves("status " + i, x -> x.status(what));
                leaves("limb, " + i, x -> x.limb(what / 2, what));
            }
        }
        leaves("limb, none", x -> x.limb(0, 50));
        leaves("digest", FilmNoises::digest);
    }

    /** What is set back leaves all as it was, so nothing else had been changed. */
    private static void setBack() {
        leaves("level", x -> x.level(2, 5, x.level(2, 5, 66)));
        leaves("level of another", x -> x.level(1, 2, x.level(1, 2, 0)));
        leaves("want", x -> x.want(1, 5, x.want(1, 5, 444)));
        for (int i = 0; i < 5; i++) {
            int what = i;
            leaves("put " + i, x -> x.put(what, x.put(what, 9)));
        }
        leaves("habit", x -> x.habit(1, 9, x.habit(1, 9, 0)));
        leaves("clear", x -> {
            Due.same("clear", x.clear(), REEL.length());
            Due.type(x, REEL);
        });
        leaves("type", x -> {
            Due.type(x, "far 9;");
            x.clear();
            Due.type(x, REEL);
        });
        leaves("forget", x -> {
            Due.same("forget", x.forget(), 2);
            x.see(1);
            x.see(8);
        });
        leaves("see", x -> {
            Due.same("see", x.see(9), 3);
            x.forget();
            x.see(1);
            x.see(8);
        });
    }

    /** One more of them changes nothing but that there is one more. */
    private static void oneMore() {
        FilmNoises x = furnished();
        Due.same("one more thing", x.thing(3, 4), 3);
        is("one more thing", x, digest(4, 2, 2), IMAGES[0], IMAGES[1]);
        x = furnished();
        Due.same("one more meaning", x.meaning(25), 2);
        is("one more meaning", x, digest(3, 3, 2), IMAGES[0], IMAGES[1]);
        x = furnished();
        Due.same("one more house", x.house(), 2);
        is("one more house", x, digest(3, 2, 3), IMAGES[0], IMAGES[1]);
    }

    /** A call that sets the fraction sets nothing else: the fraction set back, all is as it was. */
    private static void fractions() {
        leaves("taken", x -> {
            Due.same("taken", x.taken(1, 0, 3, 1, 2), 1);
            x.whose(0);
        });
        leaves("taken, eyes shut", x -> {
            Due.same("taken, eyes shut", x.taken(1, 0, 3, -1, 0), 1);
            x.whose(0);
        });
        leaves("most", x -> {
            Due.same("most", x.most(2, 1, 5, 0), 1);
            x.whose(0);
        });
        leaves("whose", x -> x.whose(0));
        leaves("whose of another", x -> {
            Due.same("whose", x.whose(1), 1);
            x.whose(0);
        });
    }

    private static void images() {
        FilmNoises x = furnished();
        Due.same("image 0", x.image(0), 1);
        is("image 0", x, ALL, ALL, IMAGES[1]);
        x = furnished();
        Due.same("image 1", x.image(1), 1);
        is("image 1", x, ALL, IMAGES[0], ALL);
        for (int i = 0; i < 2; i++) {
            x = furnished();
            Due.same("from " + i, x.from(i), 1);
            is("from " + i, x, IMAGES[i], IMAGES[0], IMAGES[1]);
        }
    }
}
