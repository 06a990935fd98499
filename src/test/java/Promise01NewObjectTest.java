/** Promise 1: WIDTH and HEIGHT are the nearest of 1 .. 20, KINDS of 1 .. 8. */
public final class Promise01NewObjectTest {
    public static void main(String[] args) {
        nearestOfEachByItself();
        lastPlaceAndKind();
        farOutside();
        blackAtFirst();
        notPartedAtFirst();
        Check.end();
    }

    private static void nearestOfEachByItself() {
        Check.says("WIDTH and HEIGHT are the nearest of 1 .. 20");
        int[][] sides = {{-2, 1}, {-1, 1}, {0, 1}, {1, 1}, {2, 2}, {10, 10}, {19, 19}, {20, 20}, {21, 20}, {22, 20}};
        for (int[] side : sides) {
            sizes(side[0], 5, 3, side[1], 5, 3);
            sizes(5, side[0], 3, 5, side[1], 3);
        }
        Check.says("KINDS of 1 .. 8");
        int[][] kinds = {{-2, 1}, {-1, 1}, {0, 1}, {1, 1}, {2, 2}, {5, 5}, {7, 7}, {8, 8}, {9, 8}, {10, 8}, {20, 8}};
        for (int[] kind : kinds) {
            sizes(4, 6, kind[0], 4, 6, kind[1]);
        }
    }

    private static void lastPlaceAndKind() {
        Check.says("WIDTH and HEIGHT are the nearest of 1 .. 20, KINDS of 1 .. 8");
        int[][] asked = {{0, 0, 0}, {1, 1, 1}, {20, 20, 8}, {21, 21, 9}, {3, 2, 4}};
        int[][] last = {{0, 0, 0}, {0, 0, 0}, {19, 19, 7}, {19, 19, 7}, {2, 1, 3}};
        for (int i = 0; i < asked.length; i++) {
            int[] end = last[i];
            PictureInlays x = new PictureInlays(asked[i][0], asked[i][1], asked[i][2]);
            Check.due("the last place", true, () -> x.pixel(end[0], end[1], 1, 2, 3));
            Check.due("a column more", Check.INDEX, () -> x.pixel(end[0] + 1, end[1], 1, 2, 3));
            Check.due("a row more", Check.INDEX, () -> x.pixel(end[0], end[1] + 1, 1, 2, 3));
            Check.due("the last kind", true, () -> x.kind(end[2], 1, 2, 3));
            Check.due("a kind more", Check.INDEX, () -> x.kind(end[2] + 1, 1, 2, 3));
        }
    }

    private static void farOutside() {
        Check.says("WIDTH and HEIGHT are the nearest of 1 .. 20, KINDS of 1 .. 8");
        sizes(1, 1, 1, 1, 1, 1);
        sizes(20, 20, 8, 20, 20, 8);
        sizes(7, 3, 5, 7, 3, 5);
        sizes(3, 7, 2, 3, 7, 2);
        sizes(0, 21, 0, 1, 20, 1);
        sizes(21, 0, 9, 20, 1, 8);
        sizes(-5, -1, -1, 1, 1, 1);
        sizes(Integer.MIN_VALUE, Integer.MAX_VALUE, Integer.MIN_VALUE, 1, 20, 1);
        sizes(Integer.MAX_VALUE, Integer.MIN_VALUE, Integer.MAX_VALUE, 20, 1, 8);
    }

    private static void sizes(int width, int height, int kinds, int columns, int rows, int woods) {
        PictureInlays x = new PictureInlays(width, height, kinds);
        String of = "of " + width + ", " + height + ", " + kinds;
        Check.due("one piece " + of, 1, () -> x.part(1));
        Check.due("places " + of, columns * rows, () -> x.piece(0, 1));
        Check.due("columns " + of, columns, () -> x.piece(0, 4));
        Check.due("rows " + of, rows, () -> x.piece(0, 5));
        Check.due("the last kind " + of, woods - 1, () -> x.sorted(woods - 1));
        Check.due("a kind too many " + of, Check.INDEX, () -> x.sorted(woods));
    }

    private static void blackAtFirst() {
        Check.says("(0, 0, 0 at first)");
        PictureInlays x = new PictureInlays(2, 2, 3);
        for (int place = 0; place < 4; place++) {
            int column = place % 2;
            int row = place / 2;
            Check.due("place " + place + " is black", false, () -> x.pixel(column, row, 0, 0, 0));
        }
        for (int k = 0; k < 3; k++) {
            int kind = k;
            Check.due("kind " + k + " is black", false, () -> x.kind(kind, 0, 0, 0));
        }
    }

    private static void notPartedAtFirst() {
        Check.says("IllegalStateException: it was not PARTED since another colour was told");
        PictureInlays x = new PictureInlays(2, 2, 3);
        Check.due("pieceOf", Check.STATE, () -> x.pieceOf(0, 0));
        Check.due("piece", Check.STATE, () -> x.piece(0, 0));
        Check.due("joined", Check.STATE, () -> x.joined(0, 0));
        Check.due("outline", Check.STATE, () -> x.outline(0));
        Check.due("corner", Check.STATE, () -> x.corner(0, 0, 0));
        Check.due("left", Check.STATE, () -> x.left(0, 0));
        Check.due("reached", Check.STATE, () -> x.reached(0, 0, 0));
        Check.due("order", Check.STATE, () -> x.order(0));
        Check.due("nest", Check.STATE, () -> x.nest(9, 9));
        Check.due("at", Check.STATE, () -> x.at(0, 0));
        Check.due("border", 2, () -> x.border(5, 2, 0));
        Check.due("sorted", 0, () -> x.sorted(0));
    }
}
