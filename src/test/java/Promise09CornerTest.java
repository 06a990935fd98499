/** Promise 9: the corners of an outline, one by one. */
public final class Promise09CornerTest {
    public static void main(String[] args) {
        shapes();
        wrongInputs();
        Check.end();
    }

    private static void shapes() {
        Check.same("a rectangle away from the edge", "1,1 3,1 3,2 1,2",
                Drawn.corners(Drawn.parted(1, "0000", "0110", "0000"), 1));
        Check.same("the first place is not in the least column", "1,0 2,0 2,2 0,2 0,1 1,1",
                Drawn.corners(Drawn.parted(1, "10", "00"), 1));
        Check.same("touching corners stay apart", "0,0 2,0 2,1 1,1 1,2 2,2 2,1 3,1 3,3 0,3",
                Drawn.corners(Drawn.parted(1, "001", "010", "000"), 0));
        Check.same("touching corners the other way round", "1,0 3,0 3,3 0,3 0,1 1,1 1,2 2,2 2,1 1,1",
                Drawn.corners(Drawn.parted(1, "100", "010", "000"), 1));
        Check.same("a touching corner below", "0,0 3,0 3,2 2,2 2,1 1,1 1,2 2,2 2,3 0,3",
                Drawn.corners(Drawn.parted(1, "000", "010", "001"), 0));
        Check.same("a touching corner below, at the left", "0,0 3,0 3,3 1,3 1,2 2,2 2,1 1,1 1,2 0,2",
                Drawn.corners(Drawn.parted(1, "000", "010", "100"), 0));
        Check.same("a bay", "0,0 1,0 1,1 2,1 2,0 3,0 3,2 0,2",
                Drawn.corners(Drawn.parted(1, "010", "000"), 0));
    }

    private static void wrongInputs() {
        PictureInlays x = Drawn.parted(1, "01", "00");
        for (int wrong : new int[] {-1, 6, Integer.MIN_VALUE, Integer.MAX_VALUE}) {
            Check.due("corner " + wrong, Check.INDEX, () -> x.corner(0, wrong, 0));
        }
        Check.due("a corner that another piece has", Check.INDEX, () -> x.corner(1, 4, 0));
        for (int wrong : new int[] {-1, 2, Integer.MIN_VALUE, Integer.MAX_VALUE}) {
            Check.due("piece " + wrong, Check.INDEX, () -> x.corner(wrong, 0, 0));
            Check.due("axis " + wrong, Check.INDEX, () -> x.corner(0, 0, wrong));
        }
        Check.due("the last corner", 0, () -> x.corner(0, 5, 0));
        Check.due("its row", 2, () -> x.corner(0, 5, 1));
        Drawn.paint(x, 0, 0, 5);
        Check.due("not parted", Check.STATE, () -> x.corner(0, 0, 0));
        Check.due("not parted is told first", Check.STATE, () -> x.corner(-1, -1, -1));
    }
}
