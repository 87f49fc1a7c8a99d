/** Promises 19 to 27: the reel's text, its faults, what is hidden and in which order all is made. */
final class ReelTest {
    private static final String PLACE = "at 0 0 0 0;";

    private ReelTest() {
    }

    static void run() {
        promise19Type();
        promise20Clear();
        promise21NoFault();
        promise21Tokens();
        promise21Numbers();
        promise21TooEarly();
        promise21Things();
        promise22Places();
        promise23Hidden();
        promise23Own();
        promise23Far();
        promise24Unheard();
        promise25Kept();
        promise26Order();
        promise27Hands();
        faultsAheadOfBad();
    }

    private static void promise19Type() {
        FilmNoises x = new FilmNoises();
        Due.same("type one byte", x.type(0x1234567820L, 1), 1);
        Due.same("type two", x.type(0x61746174L, 2), 3);
        // " at" ends too early; " ta" would have its fault at 1.
        Due.same("the highest first", x.fault(), 3);
        Due.same("type eight", x.type(Long.MIN_VALUE, 8), 11);
        Due.same("a byte that begins none", x.fault(), 3);
        x = new FilmNoises();
        for (int i = 1; i <= 24; i++) {
            Due.same("type", x.type(-1, 8), 8 * i);
        }
        x.type(-1, 1);
        long digest = x.digest();
        int[] status = Due.statusOf(x);
        Due.same("over 200", x.type(-1, 8), -4);
        Due.refused("over 200", x, digest, status, 2);
        Due.same("BAD ahead of FULL", x.type(-1, 9), -2);
        Due.same("just 200", x.type(-1, 7), 200);
        Due.same("201", x.type(-1, 1), -4);
    }

    private static void promise20Clear() {
        FilmNoises x = Due.reel(1, PLACE + PLACE);
        Due.same("clear", x.clear(), 22);
        Due.same("clear again", x.clear(), 0);
        Due.same("no bytes", x.count(2), 0);
        Due.same("no places", x.places(), 0);
        Due.type(x, PLACE);
        Due.same("anew", x.places(), 1);
    }

    private static void fault(String text, int due) {
        Due.same("fault of \"" + text + "\"", Due.reel(3, text).fault(), due);
    }

    private static void promise21NoFault() {
        fault("", -1);
        fault(" ", -1);
        fault("    ", -1);
        fault(PLACE, -1);
        fault("at0 0 0 0;", -1);
        fault("  at  999  2  9  9  ;  ", -1);
        fault("at 000 002 009 009;", -1);
        fault("far 0;", -1);
        fault("far9;far9;", -1);
        fault("far 3;at 1 0 0 0;far 0;at 1 0 0 0;", -1);
        fault(PLACE.repeat(8), -1);
        fault(PLACE.repeat(8) + "far 1;", -1);
    }

    private static void promise21Tokens() {
        fault(";", 0);
        fault(PLACE + ";", 11);
        fault("a 0 0 0 0;", 0);
        fault("att 0 0 0 0;", 0);
        fault("ar 0;", 0);
        fault("fa 0;", 0);
        fault("fat 0;", 0);
        fault("fars 0;", 0);
        fault("atfar 0;", 0);
        fault("At 0 0 0 0;", 0);
        fault("aT 0 0 0 0;", 0);
        fault("atT", 2);
        fault("3", 0);
        fault("at at 0 0 0 0;", 3);
        fault("at 0 far", 5);
        fault("at 0 0 0 0 0;", 11);
        fault("at 0 0 0 0 far 1;", 11);
        fault("at 0 0 0;", 8);
        fault("far;", 3);
        fault("far 1 1;", 6);
        fault("far 1 at", 6);
        fault("at 0\t0 0 0;", 4);
        fault("at 0 0,0 0;", 6);
        fault("at 0 0 0 0:", 10);
        fault("at 0 0 0 0;`", 11);
        fault("at 0 0 0 0;{", 11);
        fault("at 0 /", 5);
        fault("\u0000", 0);
        fault(" \u00ff", 1);
        fault("\u00e1t 0 0 0 0;", 0);
        fault(PLACE.repeat(8) + " at 0 0 0 0;", 89);
        fault(PLACE.repeat(8) + "far 2; at", 95);
        fault(PLACE.repeat(9).substring(0, 90), 88);
    }

    private static void promise21Numbers() {
        fault("at 1000 0 0 0;", 3);
        fault("at 0000 0 0 0;", 3);
        fault("at 0 0 0 00000;", 9);
        fault("0000", 0);
        fault("at 0 3 0 0;", 5);
        fault("at 0 0 10 0;", 7);
        fault("at 0 0 0 10;", 9);
        fault("far 10;", 4);
        fault("far 999;", 4);
        fault("at 5 0 0 0;at 4 0 0 0;", 14);
        fault("at 5 0 0 0;far 2;at 4 0 0 0;", 20);
        fault("at 5 0 0 0;at 5 0 0 0;at 6 0 0 0;", -1);
        fault("at 5 0 0 0;at 999 0 0 0;at 998 0 0 0;", 27);
    }

    private static void promise21TooEarly() {
        fault("at", 2);
        fault("at ", 3);
        fault("at 5", 4);
        fault("at 5 0", 6);
        fault("at 5 0 0", 8);
        fault("at 5 0 0 0", 10);
        fault("at 5 0 0 0  ", 12);
        fault("far", 3);
        fault("far 1", 5);
        fault(PLACE + "far 1 ", 17);
        fault("a", 0);
        fault("at 1 0 0 0;f", 11);
    }

    private static void promise21Things() {
        FilmNoises x = Due.reel(0, "at 0 1 0 0;");
        Due.same("no things", x.fault(), 5);
        x.thing(0, 0);
        Due.same("one thing", x.fault(), 5);
        x.image(1);
        x.thing(0, 0);
        Due.same("two things", x.fault(), -1);
        Due.same("a fault refuses nothing", x.status(0) + x.status(1) + x.status(2), 0);
        x.from(1);
        Due.same("one thing again", x.fault(), 5);
        Due.same("and no places", x.places(), -3);
    }

    private static void promise22Places() {
        Due.same("places of none", new FilmNoises().places(), 0);
        Due.same("places of blanks", Due.reel(0, "  ").places(), 0);
        Due.same("places of far alone", Due.reel(0, "far 3;").places(), 0);
        for (int n = 0; n <= 8; n++) {
            Due.same("places", Due.reel(1, PLACE.repeat(n)).places(), n);
        }
        FilmNoises x = Due.reel(1, PLACE + "at");
        long digest = x.digest();
        int[] status = Due.statusOf(x);
        Due.same("places of a fault", x.places(), -3);
        Due.refused("places of a fault", x, digest, status, 1);
    }

    /** Things of class 0 that do not fade, of levels told in band 0. */
    private static FilmNoises reel(String text, int... levels) {
        FilmNoises x = Due.reel(levels.length, text);
        for (int i = 0; i < levels.length; i++) {
            x.level(i, 0, levels[i]);
        }
        return x;
    }

    private static void promise23Hidden() {
        FilmNoises x = reel("at 5 0 0 0;at 5 1 0 0;at 5 2 0 0;at 6 1 0 0;", 20, 60, 59);
        Due.same("60 is not less than 3 times 20", x.hidden(0, 2), 1);
        Due.same("59 is", x.hidden(0, 4), 0);
        Due.same("by both", x.hidden(0, 6), 1);
        Due.same("by none", x.hidden(0, 0), 0);
        Due.same("begins a picture too late", x.hidden(0, 8), 0);
        Due.same("ends a picture too early", x.hidden(3, 3), 0);
        x.put(2, 1);
        Due.same("mask 1", x.hidden(0, 4), 1);
        Due.same("mask 1, louder", x.hidden(1, 4), 0);
        Due.same("mask 1, two together", x.hidden(1, 5), 1);
        x.put(2, 9);
        Due.same("mask 9", x.hidden(0, 14), 0);
        x.level(0, 0, 0);
        Due.same("a silent one is hidden by none", x.hidden(0, 0), 1);
        Due.same("by a place that is none", x.hidden(0, 16), -2);
        Due.same("a place that is none", x.hidden(4, 0), -2);
        x.level(0, 3, 1);
        Due.same("another band", x.hidden(0, 14), 0);
    }

    private static void promise23Own() {
        FilmNoises x = reel("at 5 0 0 0;at 5 0 0 0;", 20);
        x.put(2, 1);
        Due.same("not by itself", x.hidden(0, 1), 0);
        Due.same("by one like it", x.hidden(0, 2), 1);
        Due.same("by one like it and itself", x.hidden(0, 3), 1);
        x.put(2, 2);
        Due.same("itself does not count", x.hidden(0, 3), 0);
    }

    private static void promise23Far() {
        FilmNoises x = reel("at 0 0 0 0;far 9;at 0 1 0 0;far 5;at 0 0 0 0;", 20, 59);
        x.put(2, 1);
        // 59 less 9 is 50; 20 less 5 is 15.
        x.level(0, 0, 50);
        Due.same("beneath one far off", x.hidden(0, 2), 1);
        x.level(0, 0, 51);
        Due.same("not beneath one far off", x.hidden(0, 2), 0);
        Due.same("far off itself", x.hidden(2, 2), 1);
        x.level(0, 0, 5);
        Due.same("too far to be heard", x.hidden(2, 0), 1);
    }

    private static void promise24Unheard() {
        Due.same("unheard of none", new FilmNoises().unheard(), 0);
        FilmNoises x = reel("at 5 0 0 0;at 5 1 0 0;at 5 2 0 0;at 6 1 0 0;", 20, 60, 59);
        Due.same("unheard", x.unheard(), 1);
        x.put(2, 1);
        Due.same("unheard, mask 1", x.unheard(), 7);
        x.level(1, 0, 0);
        Due.same("unheard, silent ones", x.unheard(), 11);
        Due.same("unheard of a fault", Due.reel(1, "at").unheard(), -3);
    }

    private static void promise25Kept() {
        Due.same("kept of none", new FilmNoises().kept(), 0);
        FilmNoises x = reel("at 5 0 0 0;at 5 1 0 0;at 5 2 0 0;at 6 1 0 0;", 20, 60, 59);
        Due.same("kept", x.kept(), 14);
        x.put(2, 1);
        Due.same("kept, mask 1", x.kept(), 10);
        FilmNoises like = reel("at 5 0 0 0;at 5 0 0 0;at 5 0 0 0;", 20);
        Due.same("kept, mask 3", like.kept(), 7);
        like.put(2, 2);
        Due.same("kept, two of like ones, the least bits", like.kept(), 3);
        like.put(2, 1);
        Due.same("kept, one of like ones", like.kept(), 1);
        like.level(0, 0, 0);
        Due.same("kept, silent ones", like.kept(), 0);
        // One great place hides both others; two small ones hide each other only.
        FilmNoises few = reel("at 5 0 0 0;at 5 0 0 0;at 5 1 0 0;", 20, 99);
        Due.same("kept, the fewest ahead of the least bits", few.kept(), 4);
        Due.same("kept of a fault", Due.reel(1, "at").kept(), -3);
    }

    private static void order(FilmNoises x, int seconds, int... due) {
        Due.same("seconds", x.order(-1), seconds);
        for (int i = 0; i < due.length; i++) {
            Due.same("order " + i, x.order(i), due[i]);
        }
        int[] status = Due.statusOf(x);
        Due.same("order, not so many", x.order(due.length), -5);
        Due.same("order, not by far", x.order(Due.GREATEST), -5);
        Due.same("-5 is no refusal", x.status(0) + x.status(1) + x.status(2), status[0] + status[1] + status[2]);
        Due.same("order below -1", x.order(-2), -2);
    }

    private static void promise26Order() {
        order(new FilmNoises(), 0);
        order(Due.reel(1, "at 0 0 7 7;"), 0, 0);
        order(Due.reel(1, "at 0 0 1 1;at 0 0 1 1;at 0 0 1 1;"), 0, 0, 1, 2);
        order(Due.reel(1, "at 0 0 1 1;at 0 0 2 2;"), 50, 0, 1);
        order(Due.reel(1, "at 0 0 1 1;at 0 0 2 1;at 0 0 1 1;"), 20, 0, 2, 1);
        // Shoes are dearer than floors: 0 and 3, then 1 and 2.
        FilmNoises x = Due.reel(1, "at 0 0 1 1;at 0 0 1 2;at 0 0 2 2;at 0 0 2 1;");
        order(x, 70, 0, 3, 2, 1);
        x.put(3, 40);
        order(x, 100, 0, 1, 2, 3);
        x.put(4, 0);
        order(x, 40, 0, 1, 2, 3);
        x.put(3, 0);
        order(x, 0, 0, 1, 2, 3);
        // The least way does not begin with place 0.
        order(Due.reel(1, "at 0 0 1 1;at 0 0 0 1;at 0 0 1 0;"), 50, 1, 0, 2);
        order(Due.reel(1, "at 0 0 0 0;at 0 0 1 1;at 0 0 2 2;at 0 0 3 3;at 0 0 4 4;at 0 0 5 5;at 0 0 6 6;at 0 0 7 7;"), 350,
            0, 1, 2, 3, 4, 5, 6, 7);
        order(Due.reel(1, "at 0 0 0 0;at 0 0 1 1;at 0 0 0 0;at 0 0 1 1;at 0 0 0 0;at 0 0 1 1;at 0 0 0 0;at 0 0 1 1;"), 50,
            0, 2, 4, 6, 1, 3, 5, 7);
    }

    private static void hands(FilmNoises x, int seconds, int split) {
        Due.same("hands", x.hands(0), seconds);
        Due.same("split", x.hands(1), split);
    }

    private static void promise27Hands() {
        hands(new FilmNoises(), 0, 0);
        hands(Due.reel(1, "at 0 0 7 7;"), 0, 0);
        hands(Due.reel(1, "at 0 0 1 1;at 0 0 1 1;"), 0, 0);
        hands(Due.reel(1, "at 0 0 1 1;at 0 0 2 2;"), 0, 1);
        hands(Due.reel(1, "at 0 0 1 1;at 0 0 2 2;at 0 0 1 1;"), 0, 2);
        FilmNoises x = Due.reel(1, "at 0 0 1 1;at 0 0 1 2;at 0 0 2 2;at 0 0 2 1;");
        hands(x, 20, 6);
        x.put(3, 40);
        hands(x, 30, 3);
        // Three unlike ones: one walker makes two of them, the first one with the least between them.
        hands(Due.reel(1, "at 0 0 1 1;at 0 0 2 2;at 0 0 3 2;"), 20, 1);
        hands(Due.reel(1, "at 0 0 1 1;at 0 0 2 2;at 0 0 3 3;"), 50, 1);
        hands(Due.reel(1, "at 0 0 0 0;at 0 0 1 1;at 0 0 2 2;at 0 0 3 3;at 0 0 4 4;at 0 0 5 5;at 0 0 6 6;at 0 0 7 7;"), 150, 15);
    }

    private static void faultsAheadOfBad() {
        FilmNoises x = Due.reel(1, "at 0 0 0 0");
        long digest = x.digest();
        int[] status = Due.statusOf(x);
        Due.same("hidden, NO ahead of BAD", x.hidden(-1, -1), -3);
        Due.refused("hidden, NO ahead of BAD", x, digest, status, 1);
        status = Due.statusOf(x);
        Due.same("order, NO ahead of BAD", x.order(-2), -3);
        Due.same("hands, NO ahead of BAD", x.hands(2), -3);
        Due.same("three more", x.status(1), status[1] + 2);
    }
}
