/** Promises 1 to 9: a new object, things, meanings, what is put, how loud and how like. */
final class ThingsTest {
    private ThingsTest() {
    }

    static void run() {
        promise1New();
        promise2Thing();
        promise3Level();
        promise4Meaning();
        promise5Want();
        promise6Put();
        promise7Value();
        promise7Far();
        promise8Loud();
        promise9Likeness();
    }

    private static void promise1New() {
        FilmNoises x = new FilmNoises();
        for (int i = 0; i < 5; i++) {
            Due.same("new: count " + i, x.count(i), 0);
        }
        for (int i = 0; i < 3; i++) {
            Due.same("new: status " + i, x.status(i), 0);
        }
        Due.same("new: fraction", Due.fraction(x), "0/1");
        Due.same("new: eyes", x.put(0, 0), 500);
        Due.same("new: within", x.put(1, 1), 3);
        Due.same("new: mask", x.put(2, 1), 3);
        Due.same("new: floor", x.put(3, 0), 20);
        Due.same("new: shoe", x.put(4, 0), 30);
        Due.same("new: no image 0", x.from(0), -3);
        Due.same("new: no image 1", x.from(1), -3);
    }

    private static void promise2Thing() {
        FilmNoises x = new FilmNoises();
        for (int i = 0; i < 10; i++) {
            Due.same("thing " + i, x.thing(i % 5, i), i);
        }
        long digest = x.digest();
        int[] status = Due.statusOf(x);
        Due.same("an eleventh thing", x.thing(0, 0), -4);
        Due.refused("an eleventh thing", x, digest, status, 2);
        status = Due.statusOf(x);
        Due.same("an eleventh thing, BAD first", x.thing(5, 0), -2);
        Due.refused("an eleventh thing, BAD first", x, digest, status, 0);
        Due.same("things", x.count(0), 10);
    }

    private static void promise3Level() {
        FilmNoises x = new FilmNoises();
        Due.same("level of none", x.level(0, 0, 1), -2);
        x.thing(0, 0);
        x.thing(0, 0);
        Due.same("level at first", x.level(1, 5, 99), 0);
        Due.same("level behind", x.level(1, 5, 7), 99);
        Due.same("level of another band", x.level(1, 4, 3), 0);
        Due.same("level of another thing", x.level(0, 5, 2), 0);
        Due.same("level is kept", x.value(1, 5, 0, 0), 7);
    }

    private static void promise4Meaning() {
        FilmNoises x = new FilmNoises();
        for (int i = 0; i < 6; i++) {
            Due.same("meaning " + i, x.meaning(99 - i), i);
        }
        long digest = x.digest();
        int[] status = Due.statusOf(x);
        Due.same("a seventh meaning", x.meaning(0), -4);
        Due.refused("a seventh meaning", x, digest, status, 2);
        Due.same("a seventh meaning, BAD first", x.meaning(100), -2);
        Due.same("meanings", x.count(1), 6);
    }

    private static void promise5Want() {
        FilmNoises x = new FilmNoises();
        Due.same("want of none", x.want(0, 0, 1), -2);
        x.meaning(1);
        x.meaning(1);
        Due.same("want at first", x.want(1, 5, 799), 0);
        Due.same("want behind", x.want(1, 5, 8), 799);
        Due.same("want of another band", x.want(1, 0, 4), 0);
        Due.same("want of another meaning", x.want(0, 5, 4), 0);
    }

    private static void promise6Put() {
        FilmNoises x = new FilmNoises();
        int[] least = {0, 1, 1, 0, 0};
        int[] greatest = {2000, 9, 9, 99, 99};
        int[] first = {500, 3, 3, 20, 30};
        for (int what = 0; what < 5; what++) {
            Due.same("put at first " + what, x.put(what, greatest[what]), first[what]);
            Due.same("put the greatest " + what, x.put(what, least[what]), greatest[what]);
            Due.same("put over the greatest " + what, x.put(what, greatest[what] + 1), -2);
            Due.same("put below the least " + what, x.put(what, least[what] - 1), -2);
            Due.same("put the least " + what, x.put(what, least[what]), least[what]);
        }
        Due.same("put of none", x.put(5, 1), -2);
    }

    private static FilmNoises oneOf(int type, int fades, int band, int level) {
        FilmNoises x = new FilmNoises();
        x.thing(type, fades);
        x.level(0, band, level);
        return x;
    }

    private static void values(String what, FilmNoises x, int band, int far, int... due) {
        int all = 0;
        for (int time = 0; time < 8; time++) {
            Due.same(what + " in time " + time, x.value(0, band, time, far), due[time]);
            all += due[time];
        }
        Due.same(what + ", loud", x.loud(0, band, far), all);
    }

    private static void promise7Value() {
        values("true", oneOf(0, 3, 0, 99), 0, 0, 99, 69, 48, 33, 23, 16, 11, 7);
        values("true that does not fade", oneOf(0, 0, 2, 50), 2, 0, 50, 50, 50, 50, 50, 50, 50, 50);
        values("true that fades most", oneOf(0, 9, 0, 99), 0, 0, 99, 9, 0, 0, 0, 0, 0, 0);
        values("stood", oneOf(1, 3, 0, 99), 0, 0, 99, 72, 48, 36, 23, 19, 11, 10);
        values("stood, 99 at most", oneOf(1, 0, 0, 97), 0, 0, 97, 99, 97, 99, 97, 99, 97, 99);
        values("stood with no level", oneOf(1, 0, 0, 0), 3, 0, 0, 3, 0, 3, 0, 3, 0, 3);
        // By the one ahead without its 3: 5 behind 10 is 5 with or without it, but 2 behind 5 is 2, and 5 with 3 more.
        values("stood fades as true does", oneOf(1, 5, 0, 80), 0, 0, 80, 43, 20, 13, 5, 5, 1, 3);
        values("made", oneOf(2, 3, 0, 99), 0, 0, 10, 11, 19, 23, 36, 48, 72, 99);
        values("shared", oneOf(3, 3, 0, 60), 0, 0, 99, 84, 58, 40, 28, 18, 12, 8);
        values("wooled, band 0", oneOf(4, 3, 0, 99), 0, 0, 99, 69, 48, 33, 23, 16, 11, 7);
        // Less what is cut: 5 times 69 by 8 is 43.
        values("wooled, band 5", oneOf(4, 3, 5, 99), 5, 0, 38, 26, 18, 13, 9, 6, 5, 3);
        values("wooled, band 1", oneOf(4, 9, 1, 7), 1, 0, 7, 0, 0, 0, 0, 0, 0, 0);
    }

    private static void promise7Far() {
        values("far 1, band 0", oneOf(0, 3, 0, 99), 0, 1, 98, 68, 47, 32, 22, 15, 10, 6);
        values("far 9, band 5", oneOf(0, 0, 5, 55), 5, 9, 1, 1, 1, 1, 1, 1, 1, 1);
        values("far 9, band 5, 0 at least", oneOf(0, 3, 5, 99), 5, 9, 45, 15, 0, 0, 0, 0, 0, 0);
        values("far behind the class", oneOf(3, 0, 1, 60), 1, 4, 91, 91, 91, 91, 91, 91, 91, 91);
        values("far of made", oneOf(2, 3, 2, 99), 2, 5, 0, 0, 4, 8, 21, 33, 57, 84);
    }

    private static void promise8Loud() {
        FilmNoises x = new FilmNoises();
        Due.same("loud of none", x.loud(0, 0, 0), -2);
        x.thing(3, 0);
        x.level(0, 5, 99);
        Due.same("the loudest", x.loud(0, 5, 0), 792);
        Due.same("loud, far", x.loud(0, 5, 9), 360);
        Due.same("loud of a silent band", x.loud(0, 4, 0), 0);
    }

    private static void promise9Likeness() {
        FilmNoises x = new FilmNoises();
        x.thing(0, 0);
        Due.same("likeness to none", x.likeness(0, 0, 0), -2);
        x.meaning(0);
        Due.same("alike to the last", x.likeness(0, 0, 0), 1000);
        x.level(0, 0, 50);
        x.want(0, 0, 300);
        x.want(0, 1, 250);
        Due.same("more in one band, less in the other", x.likeness(0, 0, 0), 1000 - 100 - 250);
        Due.same("likeness, far", x.likeness(0, 0, 7), 1000 - 44 - 250);
        x.want(0, 2, 649);
        Due.same("hardly alike", x.likeness(0, 0, 0), 1);
        x.want(0, 2, 650);
        Due.same("not alike", x.likeness(0, 0, 0), 0);
        x.want(0, 2, 799);
        Due.same("not alike, 0 at least", x.likeness(0, 0, 0), 0);
        x.meaning(0);
        Due.same("another meaning", x.likeness(0, 1, 0), 600);
    }
}
