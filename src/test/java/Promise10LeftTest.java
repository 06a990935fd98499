/** Promise 10: how many places of a piece a tool does not reach. */
public final class Promise10LeftTest {
    public static void main(String[] args) {
        ordinary();
        asLargeAsThePiece();
        oneLarger();
        lackingOnePlace();
        wholePicture();
        radiusAtItsEnds();
        piecesAtTheirEnds();
        notParted();
        Check.end();
    }

    private static void has(String what, int due, int piece, int radius, String... rows) {
        PictureInlays x = Drawn.parted(1, rows);
        Check.due(what, due, () -> x.left(piece, radius));
    }

    private static void ordinary() {
        Check.says("How many places of a piece are not REACHED");
        PictureInlays x = Drawn.parted(1,
                "000011",
                "000011",
                "000000",
                "222200");
        int[] one = {4, 4, 4};
        for (int piece = 0; piece < 3; piece++) {
            int p = piece;
            Check.due("radius 0, piece " + p, 0, () -> x.left(p, 0));
            Check.due("radius 1, piece " + p, one[p], () -> x.left(p, 1));
            Check.due("radius 10, piece " + p, x.piece(p, 1), () -> x.left(p, 10));
        }
    }

    private static void asLargeAsThePiece() {
        Check.says("A TOOL of radius r covers 2 r + 1 places each way");
        has("one place, radius 0", 0, 0, 0, "0");
        has("three by three, radius 1, in a corner", 0, 0, 1, "0001", "0001", "0001", "1111");
        has("three by three, radius 1, away from the edge", 0, 1, 1, "11111", "10001", "10001", "10001", "11111");
        has("five by five, radius 2", 0, 0, 2, "00000", "00000", "00000", "00000", "00000");
        for (int radius = 0; radius <= 9; radius++) {
            int r = radius;
            PictureInlays x = new PictureInlays(2 * r + 1, 2 * r + 1, 1);
            x.part(1);
            Check.due("as large as the picture, radius " + r, 0, () -> x.left(0, r));
        }
    }

    private static void oneLarger() {
        Check.says("has all of the tool within the piece");
        has("one place, radius 1", 1, 0, 1, "0");
        has("a row too few", 6, 0, 1, "000", "000");
        has("a column too few", 6, 0, 1, "00", "00", "00");
        has("a column too few, another piece beside it", 6, 0, 1, "001", "001", "001");
        has("a row too few, another piece below it", 6, 0, 1, "000", "000", "111");
        has("a row and a column too few", 4, 0, 1, "001", "001", "111");
        has("wide, but a row too few", 14, 0, 1, "0000000", "0000000");
        for (int radius = 1; radius <= 10; radius++) {
            int r = radius;
            PictureInlays x = new PictureInlays(2 * r, Math.min(20, 2 * r + 1), 1);
            x.part(1);
            int places = x.piece(0, 1);
            Check.due("a column larger than the picture, radius " + r, places, () -> x.left(0, r));
            PictureInlays y = new PictureInlays(Math.min(20, 2 * r + 1), 2 * r, 1);
            y.part(1);
            Check.due("a row larger than the picture, radius " + r, places, () -> y.left(0, r));
        }
    }

    private static void lackingOnePlace() {
        Check.says("has all of the tool within the piece");
        has("a corner", 8, 0, 1, "001", "000", "000");
        has("the other corner", 8, 1, 1, "100", "000", "000");
        has("the lower corner", 8, 0, 1, "000", "000", "001");
        has("the other lower corner", 8, 0, 1, "000", "000", "100");
        has("the middle", 8, 0, 1, "000", "010", "000");
        has("a column more makes up for it", 2, 0, 1, "0001", "0000", "0000");
    }

    private static void wholePicture() {
        Check.says("A TOOL of radius r covers 2 r + 1 places each way");
        PictureInlays full = new PictureInlays(20, 20, 1);
        full.part(1);
        for (int radius = 0; radius <= 10; radius++) {
            int r = radius;
            Check.due("the whole picture, radius " + r, r == 10 ? 400 : 0, () -> full.left(0, r));
        }
        PictureInlays flat = new PictureInlays(20, 4, 1);
        flat.part(1);
        Check.due("higher than the tool", 0, () -> flat.left(0, 1));
        Check.due("lower than the tool", 80, () -> flat.left(0, 2));
    }

    private static void radiusAtItsEnds() {
        Check.says("IllegalArgumentException: radius is not 0 .. 10");
        PictureInlays x = Drawn.parted(1, "01", "00");
        for (int wrong : new int[] {-1, -2, 11, 12, Integer.MIN_VALUE, Integer.MAX_VALUE}) {
            Check.due("radius " + wrong, Check.ARGUMENT, () -> x.left(0, wrong));
        }
        Check.due("the smallest radius", 0, () -> x.left(0, 0));
        Check.due("the next", 3, () -> x.left(0, 1));
        Check.due("the largest radius", 3, () -> x.left(0, 10));
    }

    private static void piecesAtTheirEnds() {
        Check.says("IndexOutOfBoundsException: there is no such place, kind, piece, corner");
        PictureInlays x = Drawn.parted(1, "01", "00");
        for (int wrong : new int[] {-1, 2, 3, Integer.MIN_VALUE, Integer.MAX_VALUE}) {
            Check.due("piece " + wrong, Check.INDEX, () -> x.left(wrong, 0));
            Check.due("piece before radius, " + wrong, Check.INDEX, () -> x.left(wrong, 11));
            Check.due("piece before radius, " + wrong, Check.INDEX, () -> x.left(wrong, -1));
        }
        Check.due("the last piece", 1, () -> x.left(1, 1));
    }

    private static void notParted() {
        Check.says("IllegalStateException (first); IndexOutOfBoundsException; IllegalArgumentException: radius is not 0 .. 10");
        States.ofAll((what, x) -> {
            Check.due("left(0, 0), " + what, Check.STATE, () -> x.left(0, 0));
            Check.due("left(-1, 0), " + what, Check.STATE, () -> x.left(-1, 0));
            Check.due("left(0, 11), " + what, Check.STATE, () -> x.left(0, 11));
            Check.due("left(2, -1), " + what, Check.STATE, () -> x.left(2, -1));
        }, (what, x) -> Check.due("left(0, 1), " + what, 3, () -> x.left(0, 1)));
    }
}
