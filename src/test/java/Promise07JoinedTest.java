/** Promise 7: how many sides two pieces have in common. */
public final class Promise07JoinedTest {
    public static void main(String[] args) {
        PictureInlays x = Drawn.parted(1,
                "00000",
                "01120",
                "01000",
                "33300");
        int[][] due = {
            {0, 6, 3, 3},
            {6, 0, 1, 1},
            {3, 1, 0, 0},
            {3, 1, 0, 0}};
        for (int a = 0; a < 4; a++) {
            for (int b = 0; b < 4; b++) {
                int one = a;
                int other = b;
                Check.due("joined(" + a + ", " + b + ")", due[a][b], () -> x.joined(one, other));
            }
        }
        PictureInlays corners = Drawn.parted(1, "01", "20");
        Check.due("by a corner alone", 0, () -> corners.joined(0, 3));
        for (int wrong : new int[] {-1, 4, Integer.MIN_VALUE, Integer.MAX_VALUE}) {
            Check.due("the first " + wrong, Check.INDEX, () -> x.joined(wrong, 0));
            Check.due("the second " + wrong, Check.INDEX, () -> x.joined(0, wrong));
            Check.due("both " + wrong, Check.INDEX, () -> x.joined(wrong, wrong));
        }
        Drawn.paint(x, 0, 0, 5);
        Check.due("not parted", Check.STATE, () -> x.joined(0, 1));
        Check.due("not parted is told first", Check.STATE, () -> x.joined(-1, 9));
        Check.end();
    }
}
