/** Promise 5: the piece of a place. */
public final class Promise05PieceOfTest {
    public static void main(String[] args) {
        PictureInlays x = Drawn.parted(1, "2210", "2110", "3333");
        Check.same("numbered by first places", "0012/0112/3333", Drawn.numbers(x, 4, 3));
        int[][] noPlaces = {{-1, 0}, {4, 0}, {0, -1}, {0, 3}, {Integer.MIN_VALUE, 0}, {0, Integer.MAX_VALUE}};
        for (int[] p : noPlaces) {
            Check.due("place " + p[0] + ", " + p[1], Check.INDEX, () -> x.pieceOf(p[0], p[1]));
        }
        x.part(4);
        Check.same("numbered anew when joined", "0000/0000/1111", Drawn.numbers(x, 4, 3));
        Drawn.paint(x, 0, 0, 5);
        for (int[] p : noPlaces) {
            Check.due("not parted is told first", Check.STATE, () -> x.pieceOf(p[0], p[1]));
        }
        Check.due("not parted", Check.STATE, () -> x.pieceOf(0, 0));
        Check.end();
    }
}
