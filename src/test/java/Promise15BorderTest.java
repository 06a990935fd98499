/** Promise 15: borders of repeated parts. */
public final class Promise15BorderTest {
    public static void main(String[] args) {
        told(10, 3, 3, 1, 3);
        told(22, 6, 3, 4, 3);
        told(12, 3, 4, 0, 1);
        told(17, 5, 3, 2, 3);
        told(46, 10, 4, 3, 2);
        told(19, 8, 2, 3, 2);
        told(20, 8, 2, 2, 1);
        told(5, 5, 1, 0, 1);
        told(9, 5, 1, 4, 1);
        told(4, 5, 0, 0, 1);
        told(1, 1000000, 0, 0, 1);
        told(1000000, 1, 1000000, 0, 1);
        told(1000000, 1000000, 1, 0, 1);
        told(999999, 1000, 999, 1, 1);
        told(999999, 500000, 1, 499999, 1);
        told(1000000, 999, 1001, 1, 1001);
        told(1, 1, 1, 0, 1);
        wrongInputs();
        Check.end();
    }

    private static void told(int length, int repeat, int repeats, int numerator, int denominator) {
        PictureInlays x = new PictureInlays(1, 1, 1);
        String of = " of " + length + " by " + repeat;
        Check.due("repeats" + of, repeats, () -> x.border(length, repeat, 0));
        Check.due("numerator" + of, numerator, () -> x.border(length, repeat, 1));
        Check.due("denominator" + of, denominator, () -> x.border(length, repeat, 2));
    }

    private static void wrongInputs() {
        PictureInlays x = new PictureInlays(1, 1, 1);
        for (int wrong : new int[] {0, -1, 1000001, Integer.MIN_VALUE, Integer.MAX_VALUE}) {
            Check.due("length " + wrong, Check.ARGUMENT, () -> x.border(wrong, 5, 0));
            Check.due("repeat " + wrong, Check.ARGUMENT, () -> x.border(5, wrong, 1));
        }
        for (int wrong : new int[] {-1, 3, Integer.MIN_VALUE, Integer.MAX_VALUE}) {
            Check.due("part " + wrong, Check.INDEX, () -> x.border(5, 5, wrong));
            Check.due("part first " + wrong, Check.INDEX, () -> x.border(0, 0, wrong));
        }
    }
}
