/** Promise 8: how many corners an outline has. */
public final class Promise08OutlineTest {
    public static void main(String[] args) {
        Check.due("one place", 4, () -> Drawn.parted(1, "0").outline(0));
        Check.due("a row", 4, () -> Drawn.parted(1, "0000").outline(0));
        Check.due("an angle", 6, () -> Drawn.parted(1, "01", "00").outline(0));
        Check.due("a cross", 12, () -> Drawn.parted(1, "101", "000", "101").outline(1));
        Check.due("what lies in it is not gone round", 4, () -> Drawn.parted(1, "000", "010", "000").outline(0));
        Check.due("a corner where two places touch: round the inside, too", 10,
                () -> Drawn.parted(1, "001", "010", "000").outline(0));
        wrongInputs();
        Check.end();
    }

    private static void wrongInputs() {
        PictureInlays x = Drawn.parted(1, "012");
        Check.due("the last piece", 4, () -> x.outline(2));
        for (int wrong : new int[] {-1, 3, Integer.MIN_VALUE, Integer.MAX_VALUE}) {
            Check.due("piece " + wrong, Check.INDEX, () -> x.outline(wrong));
        }
        Drawn.paint(x, 0, 0, 5);
        Check.due("not parted", Check.STATE, () -> x.outline(0));
        Check.due("not parted is told first", Check.STATE, () -> x.outline(3));
    }
}
