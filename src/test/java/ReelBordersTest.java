/** The reel at the document's borders: bytes, tokens, faults, eight places, what sounds together, like ones. */
final class ReelBordersTest {
    private static final String PLACE = "at 5 0 0 0;";

    private ReelBordersTest() {
    }

    static void run() {
        bytesOfALong();
        emptyOrBlanks();
        eachPrefix();
        eachByteThatBeginsNone();
        wordsAndFigures();
        runsOfFigures();
        numbersNotAsTold();
        pictures();
        ninthAt();
        twoHundredBytes();
        bytesThatWere();
        thingsThatAreThere();
        fars();
        farOfAllBehind();
        farOfTheEighth();
        soundsForEightPictures();
        masked();
        silentOnes();
        eachBand();
        eightHidden();
        keptOfLikeOnes();
        seconds();
        firstOrder();
        hands();
    }

    private static void fault(String text, int due) {
        FilmNoises x = Due.reel(3, text);
        Due.same("fault of \"" + text + "\"", x.fault(), due);
        Due.same("fault of \"" + text + "\" is no refusal", x.status(0) + x.status(1) + x.status(2), 0);
        Due.same("places of \"" + text + "\", NO or not", x.places() == -3 ? 1 : 0, due == -1 ? 0 : 1);
    }

    private static long on(long h, long... all) {
        long digest = h;
        for (long v : all) {
            digest = 31 * digest + v;
        }
        return digest;
    }

    /** The digest of an object that has these bytes and nothing else. */
    private static long digestOf(int... bytes) {
        long h = on(593, 0, 0, bytes.length, 0, 0, 500, 3, 3, 20, 30);
        for (int b : bytes) {
            h = on(h, b);
        }
        return on(h, 0, 0, 1, 1);
    }

    private static void bytesOfALong() {
        long[] all = {0, 1, -1, Long.MIN_VALUE, Long.MAX_VALUE, 0x8001020304050607L, 0x0180ff7f00fe8081L};
        for (long v : all) {
            for (int n = 1; n <= 8; n++) {
                int[] bytes = new int[n];
                for (int i = 0; i < n; i++) {
                    bytes[i] = (int) Math.floorMod(Math.floorDiv(v, 1L << 8 * (n - 1 - i)), 256L);
                }
                FilmNoises x = new FilmNoises();
                Due.same("type " + v + ", " + n, x.type(v, n), n);
                Due.same("digest of bytes 0 .. 255", x.digest(), digestOf(bytes));
                Due.same("type " + v + ", 9", x.type(v, 9), -2);
                Due.same("type " + v + ", 0", x.type(v, 0), -2);
            }
        }
        FilmNoises x = new FilmNoises();
        x.type(0x1ff, 1);
        x.type(0x4142434445464748L, 2);
        Due.same("the lowest, the highest of them first", x.digest(), digestOf(255, 0x47, 0x48));
    }

    private static void emptyOrBlanks() {
        for (int n = 0; n <= 200; n += n < 4 ? 1 : 49) {
            FilmNoises x = Due.reel(0, " ".repeat(n));
            Due.same("fault of " + n + " blanks", x.fault(), -1);
            Due.same("places of " + n + " blanks", x.places(), 0);
            Due.same("hidden in " + n + " blanks", x.hidden(0, 0), -2);
            Due.same("unheard of " + n + " blanks", x.unheard(), 0);
            Due.same("kept of " + n + " blanks", x.kept(), 0);
            Due.same("seconds of " + n + " blanks", x.order(-1), 0);
            Due.same("first place of " + n + " blanks", x.order(0), -5);
            Due.same("hands of " + n + " blanks", x.hands(0), 0);
            Due.same("split of " + n + " blanks", x.hands(1), 0);
            Due.same("clear " + n + " blanks", x.clear(), n);
        }
    }

    /** A text that ends too early has its fault at its length, one that ends within a word at that word. */
    private static void eachPrefix() {
        String text = " at 12 2 9 9 ; far 9 ; ";
        int[] due = {-1, -1, 1, 3, 4, 5, 6, 7, 8, 9, 10, 11, 12, 13, -1, -1, 15, 15, 18, 19, 20, 21, -1, -1};
        for (int length = 0; length <= text.length(); length++) {
            fault(text.substring(0, length), due[length]);
        }
        String dense = "at1 0 0 0;far0;";
        int[] denser = {-1, 0, 2, 3, 4, 5, 6, 7, 8, 9, -1, 10, 10, 13, 14, -1};
        for (int length = 0; length <= dense.length(); length++) {
            fault(dense.substring(0, length), denser[length]);
        }
        fault("at 1 0 0 0" + " ".repeat(190), 200);
    }

    /** A byte that is no letter a .. z, no figure, no ; and no blank has the fault wherever it stands. */
    private static void eachByteThatBeginsNone() {
        for (char sign = 0; sign < 256; sign++) {
            boolean letter = sign >= 'a' && sign <= 'z';
            boolean figure = sign >= '0' && sign <= '9';
            if (letter || figure || sign == ' ' || sign == ';') {
                continue;
            }
            fault("" + sign, 0);
            fault("at" + sign + "5 0 0 0;", 2);
            fault("at 5" + sign + "0 0 0;", 4);
            fault("at 5 0 0 0" + sign, 10);
            fault(PLACE + sign, 11);
            fault("far " + sign, 4);
            fault("a" + sign + "t 5 0 0 0;", 0);
        }
    }

    private static void wordsAndFigures() {
        for (char letter = 'a'; letter <= 'z'; letter++) {
            fault("" + letter, 0);
            fault("at" + letter + " 5 0 0 0;", 0);
            fault("far" + letter + " 5;", 0);
            fault(letter + "at 5 0 0 0;", 0);
            fault("at 5" + letter, 4);
            fault(PLACE + letter, 11);
        }
        for (char figure = '0'; figure <= '9'; figure++) {
            fault("" + figure, 0);
            fault("at" + figure + " 0 0 0;", -1);
            fault("at 10" + figure + " 0 0 0;", -1);
            fault("at 100" + figure + " 0 0 0;", 3);
            fault("far" + figure + ";", -1);
            fault("at 5 0 " + figure + " " + figure + ";", -1);
            fault(PLACE + figure, 11);
        }
        fault("a t 5 0 0 0;", 0);
        fault("ta 5 0 0 0;", 0);
        fault("rar 5;", 0);
        fault("fbr 5;", 0);
        fault("fas 5;", 0);
        fault("aa 5 0 0 0;", 0);
        fault("tt 5 0 0 0;", 0);
        fault("atat 5 0 0 0;", 0);
        fault("at 5 0 0 0;atfar 5;", 11);
        fault("far far 5;", 4);
        fault("at 5 at", 5);
        fault("at 5 0 far", 7);
        fault("at 5 0 0 at", 9);
        fault("at 5 0 0 0 at", 11);
        fault("at;", 2);
        fault("at 5;", 4);
        fault("at 5 0;", 6);
        fault("at 5 0 0;", 8);
        fault("at 5 0 0 0;;", 11);
        fault("far 5 0;", 6);
        fault("at 5 0 0 0 5;", 11);
        fault(" ;", 1);
        fault("far 5 far 5;", 6);
    }

    private static void runsOfFigures() {
        fault("at 5 0 0 000;", -1);
        fault("at 5 0 0 0000;", 9);
        fault("at 5 0 000 0;", -1);
        fault("at 5 0 0000 0;", 7);
        fault("at 5 000 0 0;", -1);
        fault("at 5 0000 0 0;", 5);
        fault("at 005 0 0 0;", -1);
        fault("at 0005 0 0 0;", 3);
        fault("far 009;", -1);
        fault("far 0009;", 4);
        fault("far 00000000000;", 4);
        fault("at 99999999999999999999 0 0 0;", 3);
        fault("at 4294967296 0 0 0;", 3);
        fault(PLACE + "1234", 11);
        fault("at0000", 2);
        fault("at 5 0 0 0 0000;", 11);
    }

    private static void numbersNotAsTold() {
        fault("at 999 2 9 9;far 9;", -1);
        fault("at 0 0 0 0;far 0;", -1);
        fault("at 5 2 0 0;", -1);
        fault("at 5 3 0 0;", 5);
        fault("at 5 999 0 0;", 5);
        fault("at 5 0 9 0;", -1);
        fault("at 5 0 10 0;", 7);
        fault("at 5 0 999 0;", 7);
        fault("at 5 0 0 9;", -1);
        fault("at 5 0 0 10;", 9);
        fault("at 5 0 0 999;", 9);
        fault("far 10;", 4);
        fault("far 999;", 4);
        // The first of more.
        fault("at 1000 3 10 10", 3);
        fault("at 5 3 10 10", 5);
        fault("at 5 0 10 10", 7);
        fault("at 5 0 0 10", 9);
        fault("at 5 0 0 0; far 10; at 4 0 0 0;", 16);
    }

    private static void pictures() {
        fault("at 5 0 0 0;at 5 0 0 0;", -1);
        fault("at 5 0 0 0;at 6 0 0 0;", -1);
        fault("at 5 0 0 0;at 4 0 0 0;", 14);
        fault("at 5 0 0 0;at 0 0 0 0;", 14);
        fault("at 999 0 0 0;at 999 0 0 0;", -1);
        fault("at 999 0 0 0;at 998 0 0 0;", 16);
        fault("at 1 0 0 0;far 9;at 0 0 0 0;", 20);
        fault("at 7 0 0 0;at 9 0 0 0;at 8 0 0 0;", 25);
        StringBuilder falling = new StringBuilder();
        for (int i = 0; i < 7; i++) {
            falling.append("at ").append(i).append(" 0 0 0;");
        }
        fault(falling + "at 6 0 0 0;", -1);
        fault(falling + "at 5 0 0 0;", 80);
        // A fault that is told away leaves no picture behind it.
        FilmNoises x = Due.reel(1, "at 900 0 0 0;at 800 0 0 0;");
        Due.same("a lower picture", x.fault(), 16);
        x.clear();
        Due.type(x, "at 3 0 0 0;");
        Due.same("anew", x.fault(), -1);
        Due.same("anew, one place", x.places(), 1);
    }

    private static void ninthAt() {
        fault(PLACE.repeat(8), -1);
        fault(PLACE.repeat(8) + "far 9;", -1);
        fault(PLACE.repeat(8) + "at", 88);
        fault(PLACE.repeat(8) + "at x", 88);
        fault(PLACE.repeat(8) + "  far 1;  at 5 0 0 0;", 98);
        fault(PLACE.repeat(8) + "a", 88);
        fault(PLACE.repeat(7) + "at", 79);
        fault(PLACE.repeat(9), 88);
        Due.same("eight places", Due.reel(1, PLACE.repeat(8)).places(), 8);
    }

    /** Each of the 200 bytes counts, the last one too. */
    private static void twoHundredBytes() {
        String ats = PLACE.repeat(8);
        String blanks = " ".repeat(200 - ats.length());
        fault(ats + blanks, -1);
        fault(blanks + ats, -1);
        fault(blanks + ats.substring(0, ats.length() - 1) + " ", 200);
        fault(blanks + ats.substring(0, ats.length() - 1) + "z", 199);
        fault(ats + blanks.substring(1) + "\u0000", 199);
        fault(ats + blanks.substring(2) + "; ", 198);
        Due.same("places of 200 bytes", Due.reel(1, blanks + ats).places(), 8);
        FilmNoises x = Due.reel(1, "far 9;".repeat(33) + "  ");
        Due.same("only fars", x.fault(), -1);
        Due.same("no places", x.places(), 0);
    }

    private static void faultBehind(String ahead, String text, int due) {
        FilmNoises x = Due.reel(3, ahead);
        x.clear();
        Due.type(x, text);
        Due.same("fault of \"" + text + "\", \"" + ahead + "\" ahead of clear", x.fault(), due);
        FilmNoises y = Due.reel(3, text);
        y.image(1);
        y.clear();
        Due.type(y, ahead);
        y.image(0);
        y.from(1);
        Due.same("fault of \"" + text + "\", \"" + ahead + "\" ahead of from", y.fault(), due);
        y.from(0);
        y.clear();
        Due.type(y, text);
        Due.same("fault of \"" + text + "\" behind all that", y.fault(), due);
    }

    /** Bytes that are there no more are part of no token. */
    private static void bytesThatWere() {
        faultBehind("atz", "at", 2);
        faultBehind("fart 1;", "far", 3);
        faultBehind("at 1234", "at 123", 6);
        faultBehind("at 12345", "at 1", 4);
        faultBehind("far 99;", "far 9", 5);
        faultBehind("zzzzzzzzzzzz", PLACE, -1);
        faultBehind("at 5 0 0 0;at 4", PLACE, -1);
        faultBehind(PLACE, "at 5 0 0 0", 10);
        faultBehind(PLACE, "  ", -1);
        faultBehind("a", "", -1);
        faultBehind("at 5 0 0 0;".repeat(9), PLACE.repeat(8), -1);
    }

    private static void thingsThatAreThere() {
        FilmNoises x = Due.reel(0, "at 1 0 1 1;at 2 9 2 2;");
        Due.same("no things", x.fault(), 5);
        for (int n = 1; n <= 10; n++) {
            x.thing(0, 0);
            Due.same(n + " things", x.fault(), n < 10 ? 16 : -1);
            Due.same(n + " things, places", x.places(), n < 10 ? -3 : 2);
        }
        FilmNoises y = new FilmNoises();
        y.image(1);
        y.thing(0, 0);
        Due.type(y, "at 0 0 0 0;");
        y.image(0);
        y.from(1);
        Due.type(y, "at 0 0 0 0;");
        Due.same("not there in the older film", y.fault(), 5);
        y.from(0);
        Due.same("there again", y.fault(), -1);
    }

    /** Far counts for the places behind it alone, until another one. */
    private static void fars() {
        FilmNoises x = Due.reel(1, "at 0 0 0 0;far 9;at 10 0 0 0;far 0;at 20 0 0 0;far 1;far 8;at 30 0 0 0;far 9;");
        int[] loudest = {0, 9, 0, 8};
        for (int level = 0; level <= 10; level++) {
            x.level(0, 0, level);
            for (int place = 0; place < 4; place++) {
                Due.same("far, level " + level + ", place " + place, x.hidden(place, 0), level > loudest[place] ? 0 : 1);
            }
        }
    }

    /** A far counts for each at behind it, not for the next one alone; the last of more fars counts, not their sum. */
    private static void farOfAllBehind() {
        FilmNoises x = Due.reel(1, "far 5;at 0 0 0 0;at 10 0 0 0;at 20 0 0 0;far 3;at 30 0 0 0;at 40 0 0 0;far 4;far 2;at 50 0 0 0;at 60 0 0 0;");
        int[] fars = {5, 5, 5, 3, 3, 2, 2};
        for (int level = 0; level <= 15; level++) {
            x.level(0, 1, level);
            for (int place = 0; place < 7; place++) {
                Due.same("far of all behind, level " + level + ", place " + place, x.hidden(place, 0), level > 2 * fars[place] ? 0 : 1);
            }
        }
        x.clear();
        Due.type(x, PLACE);
        x.level(0, 1, 1);
        Due.same("0 at first again, on another reel", x.hidden(0, 0), 0);
    }

    /** The eighth place has its own FAR. */
    private static void farOfTheEighth() {
        FilmNoises x = Due.reel(1, PLACE.repeat(7) + "far 4;" + PLACE);
        x.level(0, 1, 8);
        Due.same("just too far", x.hidden(7, 0), 1);
        Due.same("near", x.hidden(6, 0), 0);
        x.level(0, 1, 9);
        Due.same("not too far", x.hidden(7, 0), 0);
    }

    /** A place sounds in eight pictures: time 0 of one is heard with time 7 of another, but not a picture later. */
    private static void soundsForEightPictures() {
        FilmNoises x = new FilmNoises();
        x.thing(0, 0);
        x.thing(0, 9);
        x.put(2, 1);
        x.level(0, 5, 50);
        x.level(1, 5, 9);
        // Thing 1 sounds in time 0 alone.
        Due.type(x, "at 100 0 0 0;at 107 1 0 0;at 108 1 0 0;at 110 1 0 0;at 111 0 0 0;at 112 0 0 0;");
        Due.same("in its last picture", x.hidden(1, 1), 1);
        Due.same("one picture behind", x.hidden(2, 1), 0);
        Due.same("one picture ahead", x.hidden(3, 16), 0);
        Due.same("between both", x.hidden(2, 49), 0);
        Due.same("a picture longer than the other", x.hidden(4, 32), 0);
        Due.same("a picture sooner than the other", x.hidden(5, 16), 0);
        Due.same("unheard", x.unheard(), 2);
        FilmNoises last = Due.reel(1, "at 999 0 0 0;at 999 0 0 0;");
        last.level(0, 5, 9);
        last.put(2, 1);
        Due.same("behind picture 999, too", last.hidden(0, 2), 1);
        Due.same("behind picture 999, unheard", last.unheard(), 3);
        timeSeven();
    }

    private static void timeSeven() {
        // Made, most fading, so far off that 3 more is not heard: it sounds in time 7 alone.
        FilmNoises x = Due.reel(0, "at 0 0 0 0;far 9;at 0 1 0 0;far 0;at 7 0 0 0;");
        x.thing(0, 9);
        x.thing(2, 9);
        x.put(2, 1);
        x.level(0, 0, 9);
        x.level(1, 0, 18);
        Due.same("time 7 beneath time 0", x.hidden(1, 4), 1);
        Due.same("time 0 beneath time 7", x.hidden(2, 2), 1);
        Due.same("time 0 not beneath time 7", x.hidden(0, 2), 0);
        Due.same("time 7 not beneath time 0 of the same picture", x.hidden(1, 1), 0);
    }

    /** Hidden, if times MASK it is just as much; heard, if it is one more. */
    private static void masked() {
        for (int mask = 1; mask <= 9; mask++) {
            FilmNoises x = Due.reel(2, "at 0 0 0 0;at 0 1 0 0;");
            x.put(2, mask);
            x.level(0, 3, 11);
            x.level(1, 3, 11 * mask);
            Due.same("mask " + mask + ", just as much", x.hidden(0, 2), 1);
            x.level(1, 3, 11 * mask - 1);
            Due.same("mask " + mask + ", one more", x.hidden(0, 2), 0);
        }
        FilmNoises x = Due.reel(2, "at 0 0 0 0;at 0 1 0 0;at 0 1 0 0;at 0 1 0 0;");
        x.put(2, 9);
        x.level(0, 3, 33);
        x.level(1, 3, 99);
        Due.same("three together", x.hidden(0, 14), 1);
        Due.same("its own does not count", x.hidden(0, 15), 1);
        Due.same("two together", x.hidden(0, 6), 0);
        Due.same("two and its own", x.hidden(0, 7), 0);
        x.level(0, 3, 34);
        Due.same("three together, one too soft", x.hidden(0, 15), 0);
    }

    private static void silentOnes() {
        FilmNoises x = Due.reel(1, PLACE.repeat(8));
        Due.same("silent, all unheard", x.unheard(), 255);
        Due.same("silent, none kept", x.kept(), 0);
        for (int place = 0; place < 8; place++) {
            Due.same("silent, hidden by none", x.hidden(place, 0), 1);
            Due.same("silent, hidden by all", x.hidden(place, 255), 1);
        }
        x.level(0, 5, 1);
        x.put(2, 9);
        Due.same("1 is above 0, unheard", x.unheard(), 0);
        Due.same("1 is above 0, kept", x.kept(), 255);
        x.put(2, 7);
        Due.same("seven others hide it, unheard", x.unheard(), 255);
        Due.same("seven keep the eighth", x.kept(), 127);
        x.put(2, 8);
        Due.same("seven others do not, unheard", x.unheard(), 0);
        Due.same("seven others do not, kept", x.kept(), 255);
    }

    private static void eachBand() {
        for (int band = 0; band < 6; band++) {
            FilmNoises x = Due.reel(3, "at 0 0 0 0;at 0 1 0 0;at 0 2 0 0;");
            x.put(2, 1);
            x.level(0, band, 7);
            Due.same("heard, band " + band, x.hidden(0, 6), 0);
            x.level(1, (band + 1) % 6, 99);
            x.level(2, (band + 5) % 6, 99);
            Due.same("others in other bands, band " + band, x.hidden(0, 6), 0);
            x.level(2, band, 6);
            Due.same("a softer one, band " + band, x.hidden(0, 6), 0);
            x.level(1, band, 1);
            Due.same("two together, band " + band, x.hidden(0, 6), 1);
        }
    }

    /** The eighth place of the tenth thing is as good as the first. */
    private static void eightHidden() {
        String text = "";
        for (int i = 0; i < 8; i++) {
            text += "at 5 " + (i + 2) + " 0 0;";
        }
        FilmNoises x = Due.reel(10, text);
        x.put(2, 1);
        for (int i = 2; i < 10; i++) {
            x.level(i, 5, 10 * i);
        }
        Due.same("the eighth is heard over the seventh", x.hidden(7, 64), 0);
        Due.same("and beneath two", x.hidden(7, 96), 1);
        Due.same("the first beneath the eighth", x.hidden(0, 128), 1);
        Due.same("all beneath all others", x.unheard(), 255);
        Due.same("kept, the eighth", x.kept(), 128);
        x.put(2, 9);
        // 9 times 20 beneath 80 and more, but not 9 times 50 beneath 390.
        Due.same("mask 9, unheard", x.unheard(), 1 + 2 + 4);
    }

    private static void keptOfLikeOnes() {
        FilmNoises x = Due.reel(2, "at 0 0 0 0;at 0 1 0 0;at 0 0 0 0;at 0 1 0 0;");
        x.put(2, 1);
        x.level(0, 0, 40);
        x.level(1, 0, 50);
        Due.same("one of two like ones, the least bits", x.kept(), 2);
        x.level(1, 0, 40);
        Due.same("one of four like ones", x.kept(), 1);
        x.level(1, 1, 1);
        Due.same("a little more in another band", x.kept(), 2);
        x.level(0, 2, 1);
        Due.same("two that hide the other two", x.kept(), 3);
        x.level(0, 0, 0);
        x.level(0, 2, 0);
        Due.same("silent ones need no place", x.kept(), 2);
        x.put(2, 2);
        Due.same("mask 2, both of the loud ones", x.kept(), 10);
    }

    private static void order(String text, int floor, int shoe, int seconds, int... due) {
        FilmNoises x = Due.reel(1, text);
        x.put(3, floor);
        x.put(4, shoe);
        Due.same("seconds of " + text, x.order(-1), seconds);
        for (int i = 0; i < due.length; i++) {
            Due.same("order of " + text + ", " + i, x.order(i), due[i]);
        }
        Due.same("order of " + text + ", not so many", x.order(due.length), -5);
    }

    private static void seconds() {
        String two = "at 0 0 3 3;at 0 0 4 4;";
        order(two, 99, 99, 198, 0, 1);
        order(two, 0, 99, 99, 0, 1);
        order(two, 99, 0, 99, 0, 1);
        order(two, 0, 0, 0, 0, 1);
        order(two, 1, 0, 1, 0, 1);
        order(two, 0, 1, 1, 0, 1);
        order("at 0 0 0 9;at 0 0 9 9;", 99, 50, 99, 0, 1);
        order("at 0 0 9 0;at 0 0 9 9;", 50, 99, 99, 0, 1);
        order("at 0 0 9 0;at 0 0 9 0;", 99, 99, 0, 0, 1);
        order("at 0 0 0 9;at 0 0 9 0;", 20, 30, 50, 0, 1);
        order("at 0 0 5 5;", 99, 99, 0, 0);
        String eight = "";
        for (int i = 0; i < 8; i++) {
            eight += "at 0 0 " + i + " " + (9 - i) + ";";
        }
        order(eight, 99, 99, 7 * 198, 0, 1, 2, 3, 4, 5, 6, 7);
        FilmNoises x = new FilmNoises();
        Due.same("floor 100", x.put(3, 100), -2);
        Due.same("shoe 100", x.put(4, 100), -2);
        Due.same("floor 20 at first", x.put(3, 0), 20);
        Due.same("shoe 30 at first", x.put(4, 0), 30);
    }

    private static void firstOrder() {
        // Floors 1, 2, 1, 2: 0 2 1 3 comes ahead of 0 2 3 1 and of all that begin with 1.
        order("at 0 0 1 0;at 0 0 2 0;at 0 0 1 0;at 0 0 2 0;", 20, 30, 20, 0, 2, 1, 3);
        // The middle one by floor and by shoe is 2: the least seconds begin with 0, not with 2.
        order("at 0 0 1 1;at 0 0 2 2;at 0 0 1 2;", 20, 30, 50, 0, 2, 1);
        order("at 0 0 1 2;at 0 0 1 1;at 0 0 2 2;", 20, 30, 50, 1, 0, 2);
        // Two groups of like ones, each whole: the group of place 0 first.
        order("at 0 0 1 1;at 0 0 2 2;at 0 0 2 2;at 0 0 1 1;at 0 0 2 2;at 0 0 1 1;at 0 0 2 2;at 0 0 1 1;", 20, 30, 50,
            0, 3, 5, 7, 1, 2, 4, 6);
        // All alike: as they stand.
        order(PLACE.repeat(8), 20, 30, 0, 0, 1, 2, 3, 4, 5, 6, 7);
    }

    private static void hands(String text, int seconds, int split) {
        FilmNoises x = Due.reel(1, text);
        Due.same("hands of " + text, x.hands(0), seconds);
        Due.same("split of " + text, x.hands(1), split);
        Due.same("hands of " + text + ", 2", x.hands(2), -2);
        Due.same("hands of " + text + ", -1", x.hands(-1), -2);
    }

    private static void hands() {
        hands("", 0, 0);
        hands(PLACE, 0, 0);
        hands(PLACE.repeat(8), 0, 0);
        hands("at 0 0 1 1;at 0 0 2 2;at 0 0 2 2;at 0 0 1 1;", 0, 6);
        hands("at 0 0 1 1;at 0 0 1 1;at 0 0 1 1;at 0 0 2 2;", 0, 7);
        hands("at 0 0 2 2;at 0 0 1 1;at 0 0 1 1;at 0 0 1 1;", 0, 1);
        // One must change its floor or its shoe: the first two floors and the other one.
        hands("at 0 0 1 1;at 0 0 2 1;at 0 0 3 3;", 20, 3);
        hands("at 0 0 3 3;at 0 0 1 1;at 0 0 2 1;", 20, 1);
        hands(PLACE.repeat(7) + "at 5 0 1 1;", 0, 127);
        hands("at 5 0 1 1;" + PLACE.repeat(7), 0, 1);
    }
}
