/** Promise 5: the piece of a place. */
public final class Promise05PieceOfTest {
    public static void main(String[] args) {
        numberedByFirstPlaces();
        placesAtTheirEnds();
        notParted();
        Check.end();
    }

    private static void numberedByFirstPlaces() {
        Check.says("PIECES are numbered by their first places, row by row");
        PictureInlays x = Drawn.parted(1, "2210", "2110", "3333");
        Check.same("by first places, not by kinds", "0012/0112/3333", Drawn.numbers(x, 4, 3));
        x.part(4);
        Check.same("numbered anew when joined", "0000/0000/1111", Drawn.numbers(x, 4, 3));
        PictureInlays rows = Drawn.parted(1, "001", "100", "111");
        Check.same("row by row, not column by column", "001/200/222", Drawn.numbers(rows, 3, 3));
    }

    private static void placesAtTheirEnds() {
        Check.says("IndexOutOfBoundsException: there is no such place");
        PictureInlays x = Drawn.parted(1, "0123", "4567", "0123");
        for (int row = -2; row <= 4; row++) {
            for (int column = -2; column <= 5; column++) {
                boolean inside = row >= 0 && row < 3 && column >= 0 && column < 4;
                int c = column;
                int r = row;
                Object due = inside ? row * 4 + column : Check.INDEX;
                Check.due("place " + c + ", " + r, due, () -> x.pieceOf(c, r));
            }
        }
        int[] far = {Integer.MIN_VALUE, Integer.MAX_VALUE};
        for (int wrong : far) {
            Check.due("column " + wrong, Check.INDEX, () -> x.pieceOf(wrong, 0));
            Check.due("row " + wrong, Check.INDEX, () -> x.pieceOf(0, wrong));
        }
    }

    private static void notParted() {
        Check.says("IllegalStateException (first); IndexOutOfBoundsException");
        States.ofAll((what, x) -> {
            Check.due("pieceOf(0, 0), " + what, Check.STATE, () -> x.pieceOf(0, 0));
            Check.due("pieceOf(-1, 0), " + what, Check.STATE, () -> x.pieceOf(-1, 0));
            Check.due("pieceOf(0, 20), " + what, Check.STATE, () -> x.pieceOf(0, 20));
        }, (what, x) -> Check.due("pieceOf(1, 0), " + what, 1, () -> x.pieceOf(1, 0)));
    }
}
