/** Promise 7: how many sides two pieces have in common. */
public final class Promise07JoinedTest {
    public static void main(String[] args) {
        ordinary();
        oneAndTheSame();
        nothingInCommon();
        mostSides();
        piecesAtTheirEnds();
        notParted();
        Check.end();
    }

    private static void ordinary() {
        Check.says("How many sides two pieces have in common");
        all(new int[][] {{0, 6, 3, 3}, {6, 0, 1, 1}, {3, 1, 0, 0}, {3, 1, 0, 0}},
                "00000",
                "01120",
                "01000",
                "33300");
        all(new int[][] {{0, 4}, {4, 0}}, "000", "010", "000");
        all(new int[][] {{0, 1}, {1, 0}}, "01");
    }

    private static void all(int[][] due, String... rows) {
        PictureInlays x = Drawn.parted(1, rows);
        for (int a = 0; a < due.length; a++) {
            for (int b = 0; b < due.length; b++) {
                int one = a;
                int other = b;
                Check.due("joined(" + a + ", " + b + ")", due[a][b], () -> x.joined(one, other));
            }
        }
    }

    private static void oneAndTheSame() {
        Check.says("(0, if they are one)");
        PictureInlays single = Drawn.parted(1, "0");
        Check.due("one place", 0, () -> single.joined(0, 0));
        PictureInlays large = new PictureInlays(20, 20, 1);
        large.part(1);
        Check.due("all places", 0, () -> large.joined(0, 0));
        PictureInlays ring = Drawn.parted(1, "000", "010", "000");
        Check.due("a ring", 0, () -> ring.joined(0, 0));
        Check.due("what is in it", 0, () -> ring.joined(1, 1));
        Check.due("no piece and the same one is none, either", Check.INDEX, () -> ring.joined(2, 2));
        Check.due("below 0, too", Check.INDEX, () -> ring.joined(-1, -1));
    }

    private static void nothingInCommon() {
        Check.says("How many sides two pieces have in common");
        PictureInlays corners = Drawn.parted(1, "01", "20");
        Check.due("by a corner alone", 0, () -> corners.joined(0, 3));
        Check.due("by the other corner", 0, () -> corners.joined(1, 2));
        PictureInlays far = Drawn.parted(1, "012");
        Check.due("one between them", 0, () -> far.joined(0, 2));
        PictureInlays ends = Drawn.parted(1, "012", "345");
        Check.due("a row's end and the next one's start", 0, () -> ends.joined(2, 3));
    }

    private static void mostSides() {
        Check.says("How many sides two pieces have in common");
        PictureInlays x = new PictureInlays(20, 20, 2);
        x.kind(1, 255, 255, 255);
        for (int row = 1; row < 20; row += 2) {
            for (int column = 1; column < 20; column++) {
                x.pixel(column, row, 255, 255, 255);
            }
        }
        Check.due("eleven pieces", 11, () -> x.part(1));
        Check.due("above, below and at the left", 39, () -> x.joined(0, 1));
        Check.due("at the lower edge", 20, () -> x.joined(10, 0));
    }

    private static void piecesAtTheirEnds() {
        Check.says("IndexOutOfBoundsException: there is no such place, kind, piece, corner");
        PictureInlays x = Drawn.parted(1, "012");
        for (int wrong : new int[] {-1, 3, 4, Integer.MIN_VALUE, Integer.MAX_VALUE}) {
            Check.due("the first " + wrong, Check.INDEX, () -> x.joined(wrong, 0));
            Check.due("the second " + wrong, Check.INDEX, () -> x.joined(0, wrong));
            Check.due("the second, behind the last, " + wrong, Check.INDEX, () -> x.joined(2, wrong));
            Check.due("both " + wrong, Check.INDEX, () -> x.joined(wrong, wrong));
        }
        Check.due("the first and the last", 0, () -> x.joined(0, 2));
        Check.due("the last and the one before", 1, () -> x.joined(2, 1));
    }

    private static void notParted() {
        Check.says("IllegalStateException (first); IndexOutOfBoundsException");
        States.ofAll((what, x) -> {
            Check.due("joined(0, 1), " + what, Check.STATE, () -> x.joined(0, 1));
            Check.due("joined(0, 0), " + what, Check.STATE, () -> x.joined(0, 0));
            Check.due("joined(-1, 0), " + what, Check.STATE, () -> x.joined(-1, 0));
            Check.due("joined(0, 9), " + what, Check.STATE, () -> x.joined(0, 9));
        }, (what, x) -> Check.due("joined(0, 1), " + what, 2, () -> x.joined(0, 1)));
    }
}
