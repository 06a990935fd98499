/** Promise 6: what is told of a piece. */
public final class Promise06PieceTest {
    public static void main(String[] args) {
        PictureInlays x = Drawn.parted(1,
                "000000",
                "003310",
                "033000",
                "222200");
        told(x, 0, 0, 15, 0, 0, 6, 4, 1);
        told(x, 1, 3, 4, 1, 1, 3, 2, 0);
        told(x, 2, 1, 1, 4, 1, 1, 1, 0);
        told(x, 3, 2, 4, 0, 3, 4, 1, 1);
        x.part(2);
        told(x, 1, 3, 4, 1, 1, 3, 2, 0);
        told(x, 2, 2, 4, 0, 3, 4, 1, 1);
        x.part(400);
        told(x, 0, 0, 24, 0, 0, 6, 4, 1);
        x.part(1);
        told(x, 0, 0, 15, 0, 0, 6, 4, 1);
        edges();
        partedAnew();
        wrongInputs(x);
        Check.end();
    }

    private static void told(PictureInlays x, int piece, int... due) {
        for (int what = 0; what < 7; what++) {
            int w = what;
            Check.due("piece(" + piece + ", " + what + ")", due[what], () -> x.piece(piece, w));
        }
    }

    private static void edges() {
        PictureInlays x = Drawn.parted(1, "01000", "00002", "30000", "00040");
        told(x, 1, 1, 1, 1, 0, 1, 1, 1);
        told(x, 2, 2, 1, 4, 1, 1, 1, 1);
        told(x, 3, 3, 1, 0, 2, 1, 1, 1);
        told(x, 4, 4, 1, 3, 3, 1, 1, 1);
    }

    /** Nothing of the larger pieces that were before may show in the smaller ones. */
    private static void partedAnew() {
        PictureInlays x = Drawn.parted(400, "0123", "4567");
        told(x, 0, x.piece(0, 0), 8, 0, 0, 4, 2, 1);
        x.part(1);
        for (int piece = 0; piece < 8; piece++) {
            told(x, piece, piece, 1, piece % 4, piece / 4, 1, 1, 1);
        }
    }

    private static void wrongInputs(PictureInlays x) {
        for (int wrong : new int[] {-1, 7, Integer.MIN_VALUE, Integer.MAX_VALUE}) {
            Check.due("what " + wrong, Check.ARGUMENT, () -> x.piece(0, wrong));
        }
        for (int wrong : new int[] {-1, 4, Integer.MIN_VALUE, Integer.MAX_VALUE}) {
            Check.due("piece " + wrong, Check.INDEX, () -> x.piece(wrong, 0));
            Check.due("piece first, what " + wrong, Check.INDEX, () -> x.piece(wrong, 7));
        }
        Drawn.paint(x, 0, 0, 5);
        Check.due("not parted is told first", Check.STATE, () -> x.piece(-1, 7));
        Check.due("not parted", Check.STATE, () -> x.piece(0, 0));
    }
}
