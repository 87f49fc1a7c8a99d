import java.util.function.Supplier;

/** Refusals: what is full, what is not there yet, which of two comes first, and that all but STATUS stays as it was. */
final class RefusalsTest {
    private static final int BAD = 0, NO = 1, FULL = 2;
    private static final int[] OUTSIDE = {-1, Due.LEAST, Due.GREATEST};

    private RefusalsTest() {
    }

    static void run() {
        full();
        badAheadOfFull();
        reelJustFull();
        allAreZero();
        badAheadOfNo();
        fewerThanThree();
        faultAheadOfBad();
        noImage();
        othersToldCount();
        noRefusals();
        thingsNotThereYet();
        bitsNotThereYet();
        meaningsNotThereYet();
        housesNotThereYet();
        placesNotThereYet();
    }

    /** Ten things, six meanings, 200 bytes with eight places, four houses, eight seen, two images unlike it, a fraction. */
    static FilmNoises fullFilm() {
        FilmNoises x = new FilmNoises();
        Due.same("no image yet", x.from(0), -3);
        x.meaning(3);
        x.want(0, 0, 77);
        x.see(5);
        x.image(1);
        for (int i = 0; i < 10; i++) {
            x.level(x.thing(i % 5, i), i % 6, 90 - i);
        }
        x.image(0);
        for (int i = 1; i < 6; i++) {
            x.meaning(20 * i - 1);
            x.want(i, i, 100 * i);
        }
        String text = "";
        for (int i = 0; i < 8; i++) {
            text += (i == 4 ? "far 2;" : "") + "at " + (10 + i / 2) + " " + (9 - i) + " " + i + " " + i / 3 + ";";
        }
        Due.type(x, text + " ".repeat(200 - text.length()));
        for (int i = 0; i < 4; i++) {
            x.habit(x.house(), i, 2 + i);
        }
        x.habit(0, 1, 9);
        for (int i = 1; i < 8; i++) {
            x.see(i % 3);
        }
        puts(x, 700, 5, 2, 9, 8);
        Due.same("the fraction of the full film", x.taken(2, 4, 1, 1, 1), 1);
        return x;
    }

    private static void puts(FilmNoises x, int... all) {
        for (int what = 0; what < all.length; what++) {
            x.put(what, all[what]);
        }
    }

    /** Two images unlike each other and unlike what comes behind them; nothing else, but a NO. */
    private static FilmNoises imagesAlone() {
        FilmNoises x = new FilmNoises();
        Due.same("no image yet", x.from(1), -3);
        x.see(4);
        x.image(0);
        x.meaning(9);
        x.image(1);
        x.from(0);
        x.forget();
        return x;
    }

    private static FilmNoises silentFilm() {
        return silenced(imagesAlone());
    }

    /** Two things with no likeness to both meanings, two houses with no chance, a reel with a fault. */
    private static FilmNoises silenced(FilmNoises x) {
        x.house();
        x.see(1);
        Due.same("the fraction of the silent film", x.whose(0), 1);
        x.house();
        x.habit(0, 1, 0);
        x.habit(1, 1, 0);
        for (int i = 0; i < 2; i++) {
            x.thing(3, 6);
            x.level(i, 0, 9);
            x.meaning(50);
            x.want(i, 0, 799);
            x.want(i, 5, 500);
        }
        Due.type(x, "at 0 0 0 0;at 0 0 0 0");
        puts(x, 501, 4, 2, 9, 8);
        return x;
    }

    private static void full() {
        Supplier<FilmNoises> made = RefusalsTest::fullFilm;
        Due.refused("thing, the eleventh", made, x -> x.thing(0, 0), -4, FULL);
        Due.refused("thing, the eleventh, of the highest class", made, x -> x.thing(4, 9), -4, FULL);
        Due.refused("meaning, the seventh", made, x -> x.meaning(0), -4, FULL);
        Due.refused("meaning, the seventh, of the greatest worth", made, x -> x.meaning(99), -4, FULL);
        Due.refused("type, byte 201", made, x -> x.type(' ', 1), -4, FULL);
        Due.refused("type, bytes 201 to 208", made, x -> x.type(Long.MIN_VALUE, 8), -4, FULL);
        Due.refused("house, the fifth", made, FilmNoises::house, -4, FULL);
        Due.refused("see, the ninth", made, x -> x.see(0), -4, FULL);
        Due.refused("see, the ninth, of the last thing", made, x -> x.see(9), -4, FULL);
    }

    private static void badAheadOfFull() {
        Supplier<FilmNoises> made = RefusalsTest::fullFilm;
        for (int v : OUTSIDE) {
            Due.refused("thing, full, class " + v, made, x -> x.thing(v, 0), -2, BAD);
            Due.refused("thing, full, fades " + v, made, x -> x.thing(0, v), -2, BAD);
            Due.refused("meaning, full, worth " + v, made, x -> x.meaning(v), -2, BAD);
            Due.refused("type, full, n " + v, made, x -> x.type(0, v), -2, BAD);
            Due.refused("see, full, thing " + v, made, x -> x.see(v), -2, BAD);
        }
        Due.refused("thing, full, class 5", made, x -> x.thing(5, 0), -2, BAD);
        Due.refused("thing, full, fades 10", made, x -> x.thing(0, 10), -2, BAD);
        Due.refused("meaning, full, worth 100", made, x -> x.meaning(100), -2, BAD);
        Due.refused("type, full, n 0", made, x -> x.type(0, 0), -2, BAD);
        Due.refused("type, full, n 9", made, x -> x.type(0, 9), -2, BAD);
        Due.refused("see, full, thing 10", made, x -> x.see(10), -2, BAD);
        Due.refused("image, a third", made, x -> x.image(2), -2, BAD);
        Due.refused("image, below 0", made, x -> x.image(-1), -2, BAD);
        Due.refused("from, a third", made, x -> x.from(2), -2, BAD);
        Due.refused("from, below 0", made, x -> x.from(-1), -2, BAD);
        Due.refused("truer, alike", made, x -> x.truer(5, 9, 9), -2, BAD);
        Due.refused("serves, an eleventh bit", made, x -> x.serves(1024, 0), -2, BAD);
        Due.refused("serves, the sign's bit", made, x -> x.serves(Due.LEAST, 0), -2, BAD);
        Due.refused("hidden, a ninth bit", made, x -> x.hidden(0, 256), -2, BAD);
        Due.refused("hidden, the sign's bit", made, x -> x.hidden(0, Due.LEAST), -2, BAD);
    }

    /** With 192 to 199 bytes the last ones that fit come in, and one more is FULL and adds none. */
    private static void reelJustFull() {
        for (int n = 1; n <= 8; n++) {
            int more = n;
            Supplier<FilmNoises> made = () -> {
                FilmNoises x = new FilmNoises();
                Due.type(x, "z".repeat(200 - more));
                return x;
            };
            if (n < 8) {
                Due.refused("type, one byte too many behind " + (200 - n), made, x -> x.type(-1, more + 1), -4, FULL);
                Due.refused("type, eight behind " + (200 - n), made, x -> x.type(0, 8), -4, FULL);
            }
            FilmNoises x = made.get();
            Due.same("type, the last " + n, x.type(0, n), 200);
            Due.same("type, none behind them", x.type(0, 1), -4);
            Due.same("clear, all of them", x.clear(), 200);
            Due.same("type, anew", x.type(0, 8), 8);
        }
    }

    private static void allAreZero() {
        Supplier<FilmNoises> made = RefusalsTest::silentFilm;
        Due.refused("taken, eyes shut", made, x -> x.taken(1, 1, 0, -1, 0), -3, NO);
        Due.refused("taken, far off", made, x -> x.taken(1, 1, 9, -1, 0), -3, NO);
        Due.refused("taken, seen too late", made, x -> x.taken(1, 1, 0, 0, 4), -3, NO);
        Due.refused("taken, seen latest", made, x -> x.taken(1, 1, 0, 0, 9), -3, NO);
        Due.refused("taken, seen too early", made, x -> x.taken(1, 1, 0, 0, -1), -3, NO);
        Due.refused("taken, seen earliest", made, x -> x.taken(1, 1, 0, 0, -9), -3, NO);
        Due.refused("most, of none", made, x -> x.most(0, 0, 1, 0), -3, NO);
        Due.refused("most, of all", made, x -> x.most(1, 1, 9, 9), -3, NO);
        Due.refused("may, 1 by 1", made, x -> x.may(0, 0, 1, 1), -20, NO);
        Due.refused("may, 1 by 99", made, x -> x.may(1, 1, 1, 99), -20, NO);
        Due.refused("may, 99 by 99", made, x -> x.may(1, 0, 99, 99), -20, NO);
        Due.refused("whose, the first", made, x -> x.whose(0), -3, NO);
        Due.refused("whose, the second", made, x -> x.whose(1), -3, NO);
        Supplier<FilmNoises> blind = () -> {
            FilmNoises x = silentFilm();
            x.put(0, 0);
            return x;
        };
        Due.refused("taken, seen, but EYES 0", blind, x -> x.taken(0, 0, 0, 0, 0), -3, NO);
        Supplier<FilmNoises> nearly = () -> {
            FilmNoises x = silentFilm();
            x.put(0, 2);
            return x;
        };
        Due.refused("taken, seen, but by 2 by 4 cut", nearly, x -> x.taken(0, 0, 0, 0, 3), -3, NO);
        FilmNoises x = nearly.get();
        Due.same("taken, seen, by 4 by 4", x.taken(0, 0, 0, 0, 2), 1);
        Due.same("taken, all of it", Due.fraction(x), "1/1");
    }

    private static void badAheadOfNo() {
        Supplier<FilmNoises> made = RefusalsTest::silentFilm;
        for (int v : new int[] {-1, 2, Due.LEAST, Due.GREATEST}) {
            Due.refused("taken, thing " + v, made, x -> x.taken(v, 0, 0, -1, 0), -2, BAD);
            Due.refused("taken, meaning " + v, made, x -> x.taken(0, v, 0, -1, 0), -2, BAD);
            Due.refused("taken, far", made, x -> x.taken(0, 0, v == 2 ? 10 : v, -1, 0), -2, BAD);
            Due.refused("taken, seen", made, x -> x.taken(0, 0, 0, v == -1 ? -2 : v, 0), -2, BAD);
            Due.refused("taken, late", made, x -> x.taken(0, 0, 0, 0, v == 2 ? 10 : v == -1 ? -10 : v), -2, BAD);
            Due.refused("taken, late with eyes shut", made, x -> x.taken(0, 0, 0, -1, v), -2, BAD);
            Due.refused("most, thing " + v, made, x -> x.most(v, 0, 1, 0), -2, BAD);
            Due.refused("most, meaning " + v, made, x -> x.most(0, v, 1, 0), -2, BAD);
            Due.refused("most, n", made, x -> x.most(0, 0, v == 2 ? 10 : v, 0), -2, BAD);
            Due.refused("most, k " + v, made, x -> x.most(0, 0, 1, v), -2, BAD);
            Due.refused("may, thing " + v, made, x -> x.may(v, 0, 1, 1), -10, BAD);
            Due.refused("may, meaning " + v, made, x -> x.may(0, v, 1, 1), -10, BAD);
            Due.refused("may, a " + v, made, x -> x.may(0, 0, v, 1), -10, BAD);
            Due.refused("may, b", made, x -> x.may(0, 0, 1, v == 2 ? 100 : v), -10, BAD);
            Due.refused("beast, meaning " + v, made, x -> x.beast(v), -2, BAD);
            Due.refused("whose, house " + v, made, x -> x.whose(v), -2, BAD);
            Due.refused("from, image " + v, made, x -> x.from(v), -2, BAD);
        }
        Due.refused("most, n 0", made, x -> x.most(0, 0, 0, 0), -2, BAD);
        Due.refused("most, n 0 and k 1", made, x -> x.most(0, 0, 0, 1), -2, BAD);
        Due.refused("may, a 0", made, x -> x.may(0, 0, 0, 1), -10, BAD);
        Due.refused("may, b 0", made, x -> x.may(0, 0, 0, 0), -10, BAD);
        Due.refused("may, a 1 over b 0", made, x -> x.may(0, 0, 1, 0), -10, BAD);
        Due.refused("may, a 99 over b 98", made, x -> x.may(0, 0, 99, 98), -10, BAD);
        Due.refused("may, a 100 by b 100", made, x -> x.may(0, 0, 100, 100), -10, BAD);
        Due.refused("may, a 100 over b 99", made, x -> x.may(0, 0, 100, 99), -10, BAD);
    }

    private static void fewerThanThree() {
        for (int n = 0; n < 3; n++) {
            int things = n;
            Supplier<FilmNoises> made = () -> fewThings(things);
            Due.refused("beast of " + n, made, x -> x.beast(0), -3, NO);
            Due.refused("beast of " + n + ", and no such meaning", made, x -> x.beast(1), -2, BAD);
        }
    }

    private static FilmNoises fewThings(int n) {
        FilmNoises x = imagesAlone();
        x.meaning(5);
        x.want(0, 0, 6);
        for (int i = 0; i < n; i++) {
            x.thing(3 + i, 6);
            x.level(i, 0, 9);
        }
        x.house();
        x.habit(0, 1, 8);
        x.see(7);
        Due.type(x, "zz");
        puts(x, 501, 4, 2, 9, 8);
        Due.same("the fraction of few things", x.whose(0), 1);
        return x;
    }

    private static void faultAheadOfBad() {
        Supplier<FilmNoises> made = RefusalsTest::silentFilm;
        Due.refused("places of a fault", made, FilmNoises::places, -3, NO);
        Due.refused("unheard of a fault", made, FilmNoises::unheard, -3, NO);
        Due.refused("kept of a fault", made, FilmNoises::kept, -3, NO);
        Due.refused("order of a fault", made, x -> x.order(-1), -3, NO);
        Due.refused("order of a fault, the first place", made, x -> x.order(0), -3, NO);
        Due.refused("order of a fault, not so many", made, x -> x.order(9), -3, NO);
        Due.refused("hands of a fault", made, x -> x.hands(0), -3, NO);
        Due.refused("split of a fault", made, x -> x.hands(1), -3, NO);
        Due.refused("hidden of a fault", made, x -> x.hidden(0, 1), -3, NO);
        for (int v : new int[] {-2, 8, Due.LEAST, Due.GREATEST}) {
            Due.refused("hidden of a fault, place " + v, made, x -> x.hidden(v, 0), -3, NO);
            Due.refused("hidden of a fault, bits " + v, made, x -> x.hidden(0, v * 32), -3, NO);
            Due.refused("order of a fault, " + v, made, x -> x.order(v), -3, NO);
            Due.refused("hands of a fault, " + v, made, x -> x.hands(v), -3, NO);
        }
    }

    private static void noImage() {
        Supplier<FilmNoises> none = () -> silenced(new FilmNoises());
        Due.refused("from image 0, none kept", none, x -> x.from(0), -3, NO);
        Due.refused("from image 1, none kept", none, x -> x.from(1), -3, NO);
        for (int i = 0; i < 2; i++) {
            int kept = i;
            Supplier<FilmNoises> made = () -> {
                FilmNoises x = silenced(new FilmNoises());
                x.from(1 - kept);
                x.image(kept);
                x.thing(1, 1);
                return x;
            };
            Due.refused("from the other, image " + i + " kept", made, x -> x.from(1 - kept), -3, NO);
            Due.refused("from a third, image " + i + " kept", made, x -> x.from(2), -2, BAD);
        }
    }

    /** -10 and -1 of status count as BAD, -20 as NO; each other answer counts in its own way alone. */
    private static void othersToldCount() {
        Supplier<FilmNoises> made = RefusalsTest::fullFilm;
        for (int v : new int[] {-1, 3, Due.LEAST, Due.GREATEST}) {
            Due.refused("status of " + v, made, x -> x.status(v), -1, BAD);
            Due.refused("count of " + v, made, x -> x.count(v == 3 ? 5 : v), -2, BAD);
            Due.refused("sign of " + v, made, x -> x.sign(v), -2, BAD);
            Due.refused("limb, which " + v, made, x -> x.limb(v == 3 ? 2 : v, 0), -2, BAD);
            Due.refused("limb, " + v, made, x -> x.limb(0, v == 3 ? -2 : v == Due.GREATEST ? -v : v), -2, BAD);
        }
        Due.refused("limb, neither which nor i", made, x -> x.limb(2, -1), -2, BAD);
        FilmNoises x = made.get();
        int[] status = Due.statusOf(x);
        for (int i = 1; i <= 20; i++) {
            x.status(7);
            x.thing(0, 0);
            x.beast(6);
            Due.same("BAD, counted on", x.status(0), status[0] + 2 * i);
            Due.same("FULL, counted on", x.status(2), status[2] + i);
        }
        Due.same("NO, not counted", x.status(1), status[1]);
    }

    private static void kept(String what, FilmNoises x, long got, long due) {
        Due.same(what, got, due);
        for (int i = 0; i < 3; i++) {
            Due.same(what + " is no refusal, status " + i, x.status(i), 0);
        }
    }

    private static void noRefusals() {
        FilmNoises x = new FilmNoises();
        kept("fault of none", x, x.fault(), -1);
        kept("places of none", x, x.places(), 0);
        kept("unheard of none", x, x.unheard(), 0);
        kept("kept of none", x, x.kept(), 0);
        kept("order of none", x, x.order(-1), 0);
        kept("the first place of none", x, x.order(0), -5);
        kept("the last place of none", x, x.order(Due.GREATEST), -5);
        kept("hands of none", x, x.hands(0), 0);
        kept("split of none", x, x.hands(1), 0);
        kept("clear of none", x, x.clear(), 0);
        kept("forget of none", x, x.forget(), 0);
        kept("words of none", x, x.words(), 0);
        kept("cupboard of none", x, x.cupboard(0), 0);
        kept("limb of none", x, x.limb(0, 0), -1);
        kept("steady, none", x, x.steady(99, 9, 1, 20, 0), -1);
        kept("a meaning", x, x.meaning(99), 0);
        kept("best, none", x, x.best(0), -1);
        kept("serves, none", x, x.serves(0, 0), 0);
        kept("words, none", x, x.words(), 1);
        kept("a thing", x, x.thing(0, 0), 0);
        kept("a want", x, x.want(0, 0, 1), 0);
        kept("another meaning", x, x.meaning(0), 1);
        kept("may, none", x, x.may(0, 0, 99, 99), -1);
        Due.type(x, "at");
        kept("fault", x, x.fault(), 2);
    }

    private static void thingsNotThereYet() {
        FilmNoises x = new FilmNoises();
        x.meaning(1);
        for (int n = 0; n <= 10; n++) {
            String what = n + " things: ";
            Due.same(what + "level", x.level(n, 0, 5), -2);
            Due.same(what + "value", x.value(n, 0, 0, 0), -2);
            Due.same(what + "loud", x.loud(n, 0, 0), -2);
            Due.same(what + "likeness", x.likeness(n, 0, 0), -2);
            Due.same(what + "taken", x.taken(n, 0, 0, -1, 0), -2);
            Due.same(what + "most", x.most(n, 0, 1, 1), -2);
            Due.same(what + "may", x.may(n, 0, 1, 1), -10);
            Due.same(what + "truer, one", x.truer(0, n, 0), -2);
            Due.same(what + "truer, the other", x.truer(0, 0, n), -2);
            Due.same(what + "cupboard", x.cupboard(n + 1), -2);
            Due.same(what + "cupboard of all", x.cupboard(n), (1 << n) - 1);
            if (n < 10) {
                Due.same(what + "thing", x.thing(0, 0), n);
                Due.same("level of thing " + n, x.level(n, 5, n), 0);
                Due.same("value of thing " + n, x.value(n, 5, 7, 0), n);
                Due.same("loud of thing " + n, x.loud(n, 5, 0), 8 * n);
                Due.same("likeness of thing " + n, x.likeness(n, 0, 0), 1000 - 8 * n);
                Due.same("taken of thing " + n, x.taken(n, 0, 0, -1, 0), 1);
                Due.same("most of thing " + n, x.most(n, 0, 1, 1), 1);
                Due.same("may of thing " + n, x.may(n, 0, 1, 1), 9);
            }
            if (n > 0 && n < 10) {
                Due.same("truer, of like ones thing " + n, x.truer(0, n, 0), n);
                Due.same("truer, of like ones thing 0 ahead of " + n, x.truer(0, 0, n), 0);
            }
        }
    }

    private static void bitsNotThereYet() {
        FilmNoises x = new FilmNoises();
        x.meaning(1);
        for (int n = 0; n <= 10; n++) {
            for (int bit = n; bit < 32; bit++) {
                Due.same(n + " things: serves, bit " + bit, x.serves(1 << bit, 0), -2);
            }
            Due.same(n + " things: serves, all bits", x.serves(-1, 0), -2);
            Due.same(n + " things: serves, all of them", x.serves((1 << n) - 1, 0), n > 0 ? 1000 : 0);
            x.thing(0, 0);
        }
    }

    private static void meaningsNotThereYet() {
        FilmNoises x = new FilmNoises();
        for (int i = 0; i < 3; i++) {
            x.thing(0, 0);
        }
        for (int n = 0; n <= 6; n++) {
            String what = n + " meanings: ";
            Due.same(what + "want", x.want(n, 0, 5), -2);
            Due.same(what + "likeness", x.likeness(0, n, 0), -2);
            Due.same(what + "taken", x.taken(0, n, 0, -1, 0), -2);
            Due.same(what + "most", x.most(0, n, 1, 1), -2);
            Due.same(what + "may", x.may(0, n, 1, 1), -10);
            Due.same(what + "best", x.best(n), -2);
            Due.same(what + "truer", x.truer(n, 0, 1), -2);
            Due.same(what + "serves", x.serves(1, n), -2);
            Due.same(what + "beast", x.beast(n), -2);
            if (n < 6) {
                Due.same(what + "meaning", x.meaning(n), n);
                Due.same("taken, seeing a meaning not there", x.taken(0, n, 0, n + 1, 0), -2);
                Due.same("want of meaning " + n, x.want(n, 5, 10 * n), 0);
                Due.same("likeness to meaning " + n, x.likeness(2, n, 0), 1000 - 10 * n);
                Due.same("taken for meaning " + n, x.taken(0, n, 0, n, 0), 1);
                Due.same("most of meaning " + n, x.most(0, n, 1, 1), 1);
                Due.same("may for meaning " + n, x.may(0, n, 1, 99), 9);
                Due.same("best for meaning " + n, x.best(n), 0);
                Due.same("truer for meaning " + n, x.truer(n, 2, 1), 2);
                Due.same("beast for meaning " + n, x.beast(n), 12);
            }
        }
    }

    private static void housesNotThereYet() {
        FilmNoises x = new FilmNoises();
        for (int n = 0; n <= 4; n++) {
            Due.same(n + " houses: habit", x.habit(n, 0, 1), -2);
            Due.same(n + " houses: whose", x.whose(n), -2);
            if (n < 4) {
                Due.same(n + " houses: house", x.house(), n);
                Due.same("habit of house " + n, x.habit(n, 9, 9), 1);
                Due.same("whose, house " + n, x.whose(n), 1);
                Due.same("whose, one of so many", Due.fraction(x), "1/" + (n + 1));
            }
        }
    }

    private static void placesNotThereYet() {
        FilmNoises x = new FilmNoises();
        x.thing(0, 0);
        for (int n = 0; n <= 8; n++) {
            String what = n + " places: ";
            Due.same(what + "how many", x.places(), n);
            Due.same(what + "hidden, one more", x.hidden(n, 0), -2);
            for (int bit = n; bit < 32; bit++) {
                Due.same(what + "hidden, bit " + bit, x.hidden(0, 1 << bit), -2);
            }
            Due.same(what + "order, one more", x.order(n), -5);
            Due.same(what + "order below -1", x.order(-2), -2);
            Due.same(what + "seconds", x.order(-1), 0);
            Due.same(what + "kept", x.kept(), 0);
            Due.same(what + "unheard", x.unheard(), (1 << n) - 1);
            if (n > 0) {
                Due.same(what + "hidden, the last by all", x.hidden(n - 1, (1 << n) - 1), 1);
                Due.same(what + "order, the last", x.order(n - 1), n - 1);
            }
            Due.type(x, n < 8 ? "at 0 0 0 0;" : "");
        }
    }
}
