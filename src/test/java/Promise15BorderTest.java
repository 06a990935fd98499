import java.math.BigInteger;

/** Promise 15: borders of repeated parts. */
public final class Promise15BorderTest {
    public static void main(String[] args) {
        ordinary();
        noneGoesIn();
        noRest();
        largestRest();
        withoutCommonDivisor();
        numbersAtTheirEnds();
        partAtItsEnds();
        partBeforeNumbers();
        needsNoPart();
        Check.end();
    }

    private static void told(int length, int repeat, int repeats, int numerator, int denominator) {
        PictureInlays x = new PictureInlays(1, 1, 1);
        String of = " of " + length + " by " + repeat;
        Check.due("repeats" + of, repeats, () -> x.border(length, repeat, 0));
        Check.due("numerator" + of, numerator, () -> x.border(length, repeat, 1));
        Check.due("denominator" + of, denominator, () -> x.border(length, repeat, 2));
    }

    private static void ordinary() {
        Check.says("as many as go in whole; the rest is shared by them alike");
        told(10, 3, 3, 1, 3);
        told(17, 5, 3, 2, 3);
        told(999999, 1000, 999, 1, 1);
        told(1000000, 999, 1001, 1, 1001);
    }

    private static void noneGoesIn() {
        Check.says("0 and 0 / 1 if none goes in");
        told(4, 5, 0, 0, 1);
        told(1, 2, 0, 0, 1);
        told(1, 1000000, 0, 0, 1);
        told(999999, 1000000, 0, 0, 1);
        told(500000, 500001, 0, 0, 1);
    }

    private static void noRest() {
        Check.says("told as a fraction without a common divisor, for each");
        told(1, 1, 1, 0, 1);
        told(5, 5, 1, 0, 1);
        told(12, 3, 4, 0, 1);
        told(1000000, 1, 1000000, 0, 1);
        told(999999, 1, 999999, 0, 1);
        told(1000000, 1000000, 1, 0, 1);
        told(1000000, 500000, 2, 0, 1);
        told(1000000, 2, 500000, 0, 1);
    }

    private static void largestRest() {
        Check.says("as many as go in whole; the rest is shared by them alike");
        told(9, 5, 1, 4, 1);
        told(14, 5, 2, 2, 1);
        told(999999, 500000, 1, 499999, 1);
        told(1000000, 500001, 1, 499999, 1);
        told(1000000, 999999, 1, 1, 1);
        told(1000000, 333334, 2, 166666, 1);
        told(999999, 2, 499999, 1, 499999);
        told(11, 2, 5, 1, 5);
    }

    private static void withoutCommonDivisor() {
        Check.says("told as a fraction without a common divisor, for each");
        told(22, 6, 3, 4, 3);
        told(46, 10, 4, 3, 2);
        told(19, 8, 2, 3, 2);
        told(20, 8, 2, 2, 1);
        told(28, 6, 4, 1, 1);
        for (int length = 1; length <= 60; length++) {
            PictureInlays x = new PictureInlays(1, 1, 1);
            for (int repeat = 1; repeat <= length; repeat++) {
                int repeats = length / repeat;
                int rest = length % repeat;
                int numerator = x.border(length, repeat, 1);
                int denominator = x.border(length, repeat, 2);
                String of = " of " + length + " by " + repeat;
                Check.same("the rest for all" + of, rest * denominator, numerator * repeats);
                Check.same("the common divisor" + of, BigInteger.ONE,
                        BigInteger.valueOf(numerator).gcd(BigInteger.valueOf(denominator)));
            }
        }
    }

    private static void numbersAtTheirEnds() {
        Check.says("IllegalArgumentException: length or repeat is not 1 .. 1000000");
        PictureInlays x = new PictureInlays(1, 1, 1);
        for (int wrong : new int[] {0, -1, -1000000, 1000001, 1000002, Integer.MIN_VALUE, Integer.MAX_VALUE}) {
            for (int part = 0; part < 3; part++) {
                int p = part;
                Check.due("length " + wrong, Check.ARGUMENT, () -> x.border(wrong, 5, p));
                Check.due("repeat " + wrong, Check.ARGUMENT, () -> x.border(5, wrong, p));
                Check.due("both " + wrong, Check.ARGUMENT, () -> x.border(wrong, wrong, p));
            }
        }
        Check.due("both at the lower end", 1, () -> x.border(1, 1, 0));
        Check.due("both at the upper end", 1, () -> x.border(1000000, 1000000, 0));
        Check.due("at both ends", 1000000, () -> x.border(1000000, 1, 0));
        Check.due("at both ends, the other way round", 0, () -> x.border(1, 1000000, 0));
    }

    private static void partAtItsEnds() {
        Check.says("IndexOutOfBoundsException: another part");
        PictureInlays x = new PictureInlays(1, 1, 1);
        for (int wrong : new int[] {-1, -2, 3, 4, Integer.MIN_VALUE, Integer.MAX_VALUE}) {
            Check.due("part " + wrong, Check.INDEX, () -> x.border(5, 5, wrong));
            Check.due("part where none goes in " + wrong, Check.INDEX, () -> x.border(4, 5, wrong));
        }
    }

    private static void partBeforeNumbers() {
        Check.says("of several exceptions the one named first is thrown");
        PictureInlays x = new PictureInlays(1, 1, 1);
        for (int wrong : new int[] {-1, 3}) {
            Check.due("length", Check.INDEX, () -> x.border(0, 5, wrong));
            Check.due("repeat", Check.INDEX, () -> x.border(5, 0, wrong));
            Check.due("both", Check.INDEX, () -> x.border(1000001, 1000001, wrong));
        }
    }

    private static void needsNoPart() {
        Check.says("border(int length, int repeat, int part) throws IndexOutOfBoundsException, IllegalArgumentException");
        States.ofAll((what, x) -> Check.due("border(7, 2, 0), " + what, 3, () -> x.border(7, 2, 0)),
                (what, x) -> Check.due("border(7, 2, 0), " + what, 3, () -> x.border(7, 2, 0)));
    }
}
