/** Promise 6: what is told of a piece. */
public final class Promise06PieceTest {
    public static void main(String[] args) {
        ordinary();
        smallestAndLargest();
        atTheEdge();
        partedAnew();
        whatAtItsEnds();
        piecesAtTheirEnds();
        notParted();
        Check.end();
    }

    private static void ordinary() {
        Check.says("Of a piece: its kind (what = 0), places (1), least column (2), least row (3), columns (4) and rows (5)");
        PictureInlays x = Drawn.parted(1,
                "000000",
                "003310",
                "033000",
                "222200");
        told(x, 0, 0, 15, 0, 0, 6, 4, 1);
        told(x, 1, 3, 4, 1, 1, 3, 2, 0);
        told(x, 2, 1, 1, 4, 1, 1, 1, 0);
        told(x, 3, 2, 4, 0, 3, 4, 1, 1);
        x.part(2);
        told(x, 1, 3, 4, 1, 1, 3, 2, 0);
        told(x, 2, 2, 4, 0, 3, 4, 1, 1);
        x.part(400);
        told(x, 0, 0, 24, 0, 0, 6, 4, 1);
        x.part(1);
        told(x, 0, 0, 15, 0, 0, 6, 4, 1);
    }

    private static void told(PictureInlays x, int piece, int... due) {
        for (int what = 0; what < 7; what++) {
            int w = what;
            Check.due("piece(" + piece + ", " + what + ")", due[what], () -> x.piece(piece, w));
        }
    }

    private static void smallestAndLargest() {
        Check.says("columns (4) and rows (5) of its rectangle");
        told(Drawn.parted(1, "7"), 0, 7, 1, 0, 0, 1, 1, 1);
        PictureInlays large = new PictureInlays(20, 20, 1);
        large.part(400);
        told(large, 0, 0, 400, 0, 0, 20, 20, 1);
        Check.says("least column (2)");
        told(Drawn.parted(1, "1120", "0000", "0111"), 2, 0, 6, 0, 0, 4, 3, 1);
    }

    private static void atTheEdge() {
        Check.says("1 if it has a place at the picture's edge (6)");
        PictureInlays x = Drawn.parted(1, "01000", "00002", "30000", "00040");
        told(x, 1, 1, 1, 1, 0, 1, 1, 1);
        told(x, 2, 2, 1, 4, 1, 1, 1, 1);
        told(x, 3, 3, 1, 0, 2, 1, 1, 1);
        told(x, 4, 4, 1, 3, 3, 1, 1, 1);
        PictureInlays inside = Drawn.parted(1, "00000", "01230", "04560", "00000");
        for (int piece = 1; piece <= 6; piece++) {
            int p = piece;
            Check.due("one place from the edge, piece " + p, 0, () -> inside.piece(p, 6));
        }
        PictureInlays middle = Drawn.parted(1, "000", "010", "000");
        Check.due("the middle of nine", 0, () -> middle.piece(1, 6));
        PictureInlays flat = Drawn.parted(1, "012", "345");
        for (int piece = 0; piece < 6; piece++) {
            int p = piece;
            Check.due("two rows are all edge, piece " + p, 1, () -> flat.piece(p, 6));
        }
    }

    /** Nothing of the larger pieces that were before may show in the smaller ones. */
    private static void partedAnew() {
        Check.says("and all pieces are made anew");
        PictureInlays x = Drawn.parted(400, "0123", "4567");
        told(x, 0, x.piece(0, 0), 8, 0, 0, 4, 2, 1);
        x.part(1);
        for (int piece = 0; piece < 8; piece++) {
            told(x, piece, piece, 1, piece % 4, piece / 4, 1, 1, 1);
        }
    }

    private static void whatAtItsEnds() {
        Check.says("IllegalArgumentException: another what");
        PictureInlays x = Drawn.parted(1, "01", "00");
        for (int wrong : new int[] {-1, -2, 7, 8, Integer.MIN_VALUE, Integer.MAX_VALUE}) {
            Check.due("what " + wrong, Check.ARGUMENT, () -> x.piece(0, wrong));
            Check.due("what of the last piece " + wrong, Check.ARGUMENT, () -> x.piece(1, wrong));
        }
        Check.due("the first what", 1, () -> x.piece(1, 0));
        Check.due("the last what", 1, () -> x.piece(1, 6));
    }

    private static void piecesAtTheirEnds() {
        Check.says("IndexOutOfBoundsException: there is no such place, kind, piece, corner");
        PictureInlays x = Drawn.parted(1, "01", "00");
        for (int wrong : new int[] {-1, -2, 2, 3, Integer.MIN_VALUE, Integer.MAX_VALUE}) {
            Check.due("piece " + wrong, Check.INDEX, () -> x.piece(wrong, 0));
            Check.due("piece before what, " + wrong, Check.INDEX, () -> x.piece(wrong, 7));
            Check.due("piece before what, " + wrong, Check.INDEX, () -> x.piece(wrong, -1));
        }
        x.part(2);
        Check.due("a piece of before", Check.INDEX, () -> x.piece(1, 0));
    }

    private static void notParted() {
        Check.says("IllegalStateException (first); IndexOutOfBoundsException; IllegalArgumentException: another what");
        States.ofAll((what, x) -> {
            Check.due("piece(0, 0), " + what, Check.STATE, () -> x.piece(0, 0));
            Check.due("piece(-1, 0), " + what, Check.STATE, () -> x.piece(-1, 0));
            Check.due("piece(0, 7), " + what, Check.STATE, () -> x.piece(0, 7));
            Check.due("piece(2, -1), " + what, Check.STATE, () -> x.piece(2, -1));
        }, (what, x) -> Check.due("piece(0, 1), " + what, 3, () -> x.piece(0, 1)));
    }
}
