/** Promise 13: how many pieces are placed on a sheet. */
public final class Promise13NestTest {
    public static void main(String[] args) {
        PictureInlays x = Drawn.parted(1, "0011123", "0011123");
        // Rectangles: 0 is 2 by 2, 1 is 3 by 2, 2 and 3 are 1 by 2.
        Check.due("all in one row", 4, () -> x.nest(7, 2));
        Check.due("one column too few", 3, () -> x.nest(6, 2));
        Check.due("two rows", 4, () -> x.nest(6, 4));
        Check.due("a row too low", 3, () -> x.nest(6, 3));
        Check.due("the widest one left out", 3, () -> x.nest(2, 4));
        Check.due("none is low enough", 0, () -> x.nest(100, 1));
        Check.due("only the narrow ones", 2, () -> x.nest(1, 100));
        Check.due("only one of them", 1, () -> x.nest(1, 3));
        wrongInputs(x);
        Check.end();
    }

    private static void wrongInputs(PictureInlays x) {
        x.nest(7, 2);
        for (int wrong : new int[] {0, -1, 101, Integer.MIN_VALUE, Integer.MAX_VALUE}) {
            Check.due("w " + wrong, Check.ARGUMENT, () -> x.nest(wrong, 1));
            Check.due("h " + wrong, Check.ARGUMENT, () -> x.nest(1, wrong));
        }
        Check.due("the latest sheet still stands", 5, () -> x.at(2, 0));
        Check.due("the largest sheet", 4, () -> x.nest(100, 100));
        Check.due("the smallest sheet", 0, () -> x.nest(1, 1));
        Drawn.paint(x, 0, 0, 5);
        Check.due("not parted", Check.STATE, () -> x.nest(9, 9));
        Check.due("not parted is told first", Check.STATE, () -> x.nest(0, 101));
        x.part(1);
        Check.due("a wrong sheet", Check.ARGUMENT, () -> x.nest(0, 5));
        Check.due("is no sheet", Check.STATE, () -> x.at(0, 0));
    }
}
