import java.math.BigInteger;
import java.util.function.Supplier;
import java.util.function.ToLongFunction;

/** Counts answers that are as due and prints those that are not. */
final class Due {
    static final int LEAST = Integer.MIN_VALUE, GREATEST = Integer.MAX_VALUE;

    private static int passed;
    private static int failed;

    private Due() {
    }

    static void same(String what, long got, long due) {
        if (got == due) {
            passed++;
        } else {
            failed++;
            System.out.println(what + ": answered " + got + ", due is " + due);
        }
    }

    static void same(String what, String got, String due) {
        same(what + " (" + got + " for " + due + ")", got.equals(due) ? 1 : 0, 1);
    }

    static void holds(String what, boolean it) {
        same(what, it ? 1 : 0, 1);
    }

    /** Whether the last call was refused as told and changed nothing but STATUS. */
    static void refused(String what, FilmNoises x, long digestAhead, int[] statusAhead, int kind) {
        same(what + " leaves all as it was", x.digest(), digestAhead);
        for (int i = 0; i < 3; i++) {
            same(what + ", status " + i, x.status(i), statusAhead[i] + (i == kind ? 1 : 0));
        }
    }

    /** Whether a call on an object made so is refused as told and changes nothing but STATUS: all, both images, and each count. */
    static void refused(String what, Supplier<FilmNoises> made, ToLongFunction<FilmNoises> call, long due, int kind) {
        for (int i = 0; i < 2; i++) {
            FilmNoises x = made.get();
            FilmNoises twin = made.get();
            long digest = x.digest();
            int[] status = statusOf(x);
            same(what, call.applyAsLong(x), due);
            refused(what, x, digest, status, kind);
            same(what + ", image " + i + " is kept or is not", x.from(i), twin.from(i));
            same(what + ", image " + i + " stays", x.digest(), twin.digest());
        }
    }

    static int[] statusOf(FilmNoises x) {
        return new int[] {x.status(0), x.status(1), x.status(2)};
    }

    /** THE FRACTION as "above/below"; its limbs must be as the document tells. */
    static String fraction(FilmNoises x) {
        BigInteger above = number(x, 0, x.sign(1));
        BigInteger below = number(x, 1, x.sign(2));
        String shown = above + "/" + below;
        same("sign of " + shown, x.sign(0), above.signum());
        holds("below above 0 in " + shown, below.signum() > 0);
        same("lowest terms of " + shown, above.gcd(below).toString(), "1");
        return shown;
    }

    private static BigInteger number(FilmNoises x, int which, int limbs) {
        BigInteger all = BigInteger.ZERO;
        for (int i = limbs - 1; i >= 0; i--) {
            int limb = x.limb(which, i);
            holds("a limb below the base, the highest above 0", limb < 1 << 30 && limb >= (i == limbs - 1 ? 1 : 0));
            all = all.shiftLeft(30).add(BigInteger.valueOf(limb));
        }
        same("no limb behind the highest", x.limb(which, limbs), -1);
        return all;
    }

    /** Types a whole text, 8 bytes a call. */
    static void type(FilmNoises x, String text) {
        for (int start = 0; start < text.length(); start += 8) {
            int end = Math.min(text.length(), start + 8);
            long v = 0;
            for (int i = start; i < end; i++) {
                v = v << 8 | text.charAt(i);
            }
            same("type of " + text.substring(start, end), x.type(v, end - start), x.count(2));
        }
    }

    /** An object whose reel has this text, with things 0 .. n - 1 of class 0. */
    static FilmNoises reel(int things, String text) {
        FilmNoises x = new FilmNoises();
        for (int i = 0; i < things; i++) {
            x.thing(0, 0);
        }
        type(x, text);
        return x;
    }

    static int close() {
        System.out.println(passed + " passed, " + failed + " failed");
        return failed == 0 ? 0 : 1;
    }
}
