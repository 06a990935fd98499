/** Promise 10: how many places of a piece a tool does not reach. */
public final class Promise10LeftTest {
    public static void main(String[] args) {
        PictureInlays x = Drawn.parted(1,
                "000011",
                "000011",
                "000000",
                "222200");
        int[] none = {0, 0, 0};
        int[] one = {4, 4, 4};
        for (int piece = 0; piece < 3; piece++) {
            int p = piece;
            Check.due("radius 0, piece " + p, none[p], () -> x.left(p, 0));
            Check.due("radius 1, piece " + p, one[p], () -> x.left(p, 1));
            Check.due("radius 10, piece " + p, x.piece(p, 1), () -> x.left(p, 10));
        }
        PictureInlays full = new PictureInlays(20, 20, 1);
        full.part(1);
        for (int radius = 0; radius <= 10; radius++) {
            int r = radius;
            Check.due("the whole picture, radius " + r, r == 10 ? 400 : 0, () -> full.left(0, r));
        }
        PictureInlays flat = new PictureInlays(20, 4, 1);
        flat.part(1);
        Check.due("as high as the tool", 0, () -> flat.left(0, 1));
        Check.due("lower than the tool", 80, () -> flat.left(0, 2));
        wrongInputs(x);
        Check.end();
    }

    private static void wrongInputs(PictureInlays x) {
        for (int wrong : new int[] {-1, 11, Integer.MIN_VALUE, Integer.MAX_VALUE}) {
            Check.due("radius " + wrong, Check.ARGUMENT, () -> x.left(0, wrong));
        }
        for (int wrong : new int[] {-1, 3, Integer.MIN_VALUE, Integer.MAX_VALUE}) {
            Check.due("piece " + wrong, Check.INDEX, () -> x.left(wrong, 0));
            Check.due("piece first " + wrong, Check.INDEX, () -> x.left(wrong, 11));
        }
        Drawn.paint(x, 0, 0, 5);
        Check.due("not parted", Check.STATE, () -> x.left(0, 0));
        Check.due("not parted is told first", Check.STATE, () -> x.left(-1, -1));
    }
}
