/** Promise 9: the corners of an outline, one by one. */
public final class Promise09CornerTest {
    public static void main(String[] args) {
        ordinary();
        onePlace();
        anotherPieceInside();
        touchingByACornerAlone();
        largest();
        cornersAtTheirEnds();
        axisAtItsEnds();
        piecesAtTheirEnds();
        notParted();
        Check.end();
    }

    private static void has(String what, String due, int piece, String... rows) {
        Check.same(what, due, Drawn.corners(Drawn.parted(1, rows), piece));
    }

    private static void ordinary() {
        Check.says("along the sides of its places, the piece to the right, from its first place's upper left corner to the right");
        has("a rectangle away from the edge", "1,1 3,1 3,2 1,2", 1, "0000", "0110", "0000");
        has("the first place is not in the least column", "1,0 2,0 2,2 0,2 0,1 1,1", 1, "10", "00");
        has("a bay", "0,0 1,0 1,1 2,1 2,0 3,0 3,2 0,2", 0, "010", "000");
        has("a bay below", "0,0 3,0 3,2 2,2 2,1 1,1 1,2 0,2", 0, "000", "010");
        has("a step", "0,0 2,0 2,1 3,1 3,2 1,2 1,1 0,1", 0, "001", "100", "111");
    }

    private static void onePlace() {
        Check.says("from its first place's upper left corner to the right, round about");
        has("the only one", "0,0 1,0 1,1 0,1", 0, "0");
        has("in the upper right", "2,0 3,0 3,1 2,1", 2, "012", "345");
        has("in the lower right", "2,1 3,1 3,2 2,2", 5, "012", "345");
        has("in the lower left", "0,1 1,1 1,2 0,2", 3, "012", "345");
        has("in the middle", "1,1 2,1 2,2 1,2", 1, "000", "010", "000");
    }

    private static void anotherPieceInside() {
        Check.says("from its first place's upper left corner to the right, round about");
        has("round what is in it, outside", "0,0 3,0 3,3 0,3", 0, "000", "010", "000");
        has("two in it that touch by a corner", "0,0 5,0 5,4 0,4", 0, "00000", "01000", "00100", "00000");
        has("one in another that is in it", "1,1 4,1 4,4 1,4", 1, "00000", "01110", "01210", "01110", "00000");
    }

    private static void touchingByACornerAlone() {
        Check.says("(where two of its places touch by a corner alone, so that they stay apart)");
        has("above, at the right", "0,0 2,0 2,1 1,1 1,2 2,2 2,1 3,1 3,3 0,3", 0, "001", "010", "000");
        has("above, at the left", "1,0 3,0 3,3 0,3 0,1 1,1 1,2 2,2 2,1 1,1", 1, "100", "010", "000");
        has("below, at the right", "0,0 3,0 3,2 2,2 2,1 1,1 1,2 2,2 2,3 0,3", 0, "000", "010", "001");
        has("below, at the left", "0,0 3,0 3,3 1,3 1,2 2,2 2,1 1,1 1,2 0,2", 0, "000", "010", "100");
        has("two pieces of one kind stay two", "0,0 1,0 1,1 0,1", 0, "01", "10");
        has("the other one of them", "1,1 2,1 2,2 1,2", 3, "01", "10");
        has("two of them", "0,0 2,0 2,1 1,1 1,2 2,2 2,1 3,1 3,2 4,2 4,1 3,1 3,0 5,0 5,3 0,3", 0,
                "00100", "01010", "00000");
        has("a chain of them", "0,0 3,0 3,1 2,1 2,2 1,2 1,3 2,3 2,2 3,2 3,1 4,1 4,0 5,0 5,4 0,4", 0,
                "00010", "00100", "01000", "00000");
    }

    private static void largest() {
        Check.says("x (axis = 0), y (1), in sides of places");
        PictureInlays x = new PictureInlays(20, 20, 1);
        x.part(1);
        Check.same("all places", "0,0 20,0 20,20 0,20", Drawn.corners(x, 0));
        PictureInlays stairs = Drawn.parted(1, Drawn.stairs());
        int corners = Drawn.turns(Drawn.stairs(), '0');
        Check.due("the last of many, across", 0, () -> stairs.corner(0, corners - 1, 0));
        Check.due("the last of many, down", 2, () -> stairs.corner(0, corners - 1, 1));
        Check.due("none behind it", Check.INDEX, () -> stairs.corner(0, corners, 0));
        Check.due("the second one", 20, () -> stairs.corner(0, 1, 0));
        Check.due("one on the way", 1, () -> stairs.corner(0, corners - 2, 0));
    }

    private static void cornersAtTheirEnds() {
        Check.says("IndexOutOfBoundsException: there is no such place, kind, piece, corner");
        PictureInlays x = Drawn.parted(1, "01", "00");
        for (int wrong : new int[] {-1, -2, 6, 7, Integer.MIN_VALUE, Integer.MAX_VALUE}) {
            Check.due("corner " + wrong, Check.INDEX, () -> x.corner(0, wrong, 0));
            Check.due("row of corner " + wrong, Check.INDEX, () -> x.corner(0, wrong, 1));
        }
        Check.due("a corner that another piece has", Check.INDEX, () -> x.corner(1, 4, 0));
        Check.due("its own last one", 1, () -> x.corner(1, 3, 0));
        Check.due("the first corner", 0, () -> x.corner(0, 0, 0));
        Check.due("its row", 0, () -> x.corner(0, 0, 1));
        Check.due("the last corner", 0, () -> x.corner(0, 5, 0));
        Check.due("its row", 2, () -> x.corner(0, 5, 1));
    }

    private static void axisAtItsEnds() {
        Check.says("IndexOutOfBoundsException: also of axis");
        PictureInlays x = Drawn.parted(1, "01", "00");
        for (int wrong : new int[] {-1, -2, 2, 3, Integer.MIN_VALUE, Integer.MAX_VALUE}) {
            Check.due("axis " + wrong, Check.INDEX, () -> x.corner(0, 0, wrong));
            Check.due("axis and corner " + wrong, Check.INDEX, () -> x.corner(0, 6, wrong));
        }
    }

    private static void piecesAtTheirEnds() {
        Check.says("IndexOutOfBoundsException: there is no such place, kind, piece, corner");
        PictureInlays x = Drawn.parted(1, "01", "00");
        for (int wrong : new int[] {-1, 2, 3, Integer.MIN_VALUE, Integer.MAX_VALUE}) {
            Check.due("piece " + wrong, Check.INDEX, () -> x.corner(wrong, 0, 0));
            Check.due("piece, corner, axis " + wrong, Check.INDEX, () -> x.corner(wrong, -1, 2));
        }
        Check.due("the last piece", 1, () -> x.corner(1, 0, 0));
    }

    private static void notParted() {
        Check.says("IllegalStateException (first); IndexOutOfBoundsException: also of axis");
        States.ofAll((what, x) -> {
            Check.due("corner(0, 0, 0), " + what, Check.STATE, () -> x.corner(0, 0, 0));
            Check.due("corner(-1, 0, 0), " + what, Check.STATE, () -> x.corner(-1, 0, 0));
            Check.due("corner(0, 6, 0), " + what, Check.STATE, () -> x.corner(0, 6, 0));
            Check.due("corner(0, 0, 2), " + what, Check.STATE, () -> x.corner(0, 0, 2));
        }, (what, x) -> Check.due("corner(0, 3, 0), " + what, 2, () -> x.corner(0, 3, 0)));
    }
}
