/** Promise 8: how many corners an outline has. */
public final class Promise08OutlineTest {
    public static void main(String[] args) {
        ordinary();
        onePlace();
        anotherPieceInside();
        touchingByACornerAlone();
        largest();
        piecesAtTheirEnds();
        notParted();
        Check.end();
    }

    private static void has(String what, int due, int piece, String... rows) {
        PictureInlays x = Drawn.parted(1, rows);
        Check.due(what, due, () -> x.outline(piece));
    }

    private static void ordinary() {
        Check.says("CORNERS are where it turns, the first one where it begins");
        has("a row", 4, 0, "0000");
        has("a column", 4, 0, "0", "0", "0");
        has("an angle", 6, 0, "01", "00");
        has("the other angle", 6, 1, "10", "00");
        has("a step", 8, 0, "001", "100", "111");
        has("a cross", 12, 1, "101", "000", "101");
        has("a bay", 8, 0, "010", "000");
    }

    private static void onePlace() {
        Check.says("from its first place's upper left corner to the right, round about");
        has("the only place", 4, 0, "0");
        PictureInlays x = Drawn.parted(1, "0123", "4567", "0123");
        for (int piece = 0; piece < 12; piece++) {
            int p = piece;
            Check.due("each of the places, " + p, 4, () -> x.outline(p));
        }
    }

    private static void anotherPieceInside() {
        Check.says("from its first place's upper left corner to the right, round about");
        has("round what is in it, outside", 4, 0, "000", "010", "000");
        has("what is in it", 4, 1, "000", "010", "000");
        has("two in it that touch by a corner", 4, 0, "00000", "01000", "00100", "00000");
        has("one in another that is in it", 4, 0, "00000", "01110", "01210", "01110", "00000");
        has("the one between them", 4, 1, "00000", "01110", "01210", "01110", "00000");
        has("the innermost one", 4, 2, "00000", "01110", "01210", "01110", "00000");
    }

    private static void touchingByACornerAlone() {
        Check.says("(where two of its places touch by a corner alone, so that they stay apart)");
        has("round the inside, too", 10, 0, "001", "010", "000");
        has("the other way round", 10, 1, "100", "010", "000");
        has("below", 10, 0, "000", "010", "001");
        has("below, at the left", 10, 0, "000", "010", "100");
        has("two pieces of one kind stay two", 4, 0, "01", "10");
        has("the one of them that is more", 6, 3, "011", "100", "000");
        has("two such corners", 16, 0, "00100", "01010", "00000");
        has("a chain of them", 16, 0, "00010", "00100", "01000", "00000");
    }

    private static void largest() {
        Check.says("CORNERS are where it turns");
        PictureInlays plain = new PictureInlays(20, 20, 1);
        plain.part(1);
        Check.due("all places", 4, () -> plain.outline(0));
        PictureInlays comb = new PictureInlays(20, 19, 2);
        comb.kind(1, 255, 255, 255);
        for (int row = 1; row < 19; row += 2) {
            for (int column = 1; column < 20; column++) {
                comb.pixel(column, row, 255, 255, 255);
            }
        }
        comb.part(1);
        Check.due("a comb of ten teeth", 40, () -> comb.outline(0));
        PictureInlays stairs = Drawn.parted(1, Drawn.stairs());
        Check.due("stairs, each of their steps", Drawn.turns(Drawn.stairs(), '0'), () -> stairs.outline(0));
        Check.same("these are many", true, Drawn.turns(Drawn.stairs(), '0') > 300);
    }

    private static void piecesAtTheirEnds() {
        Check.says("IndexOutOfBoundsException: there is no such place, kind, piece, corner");
        PictureInlays x = Drawn.parted(1, "012");
        Check.due("the first piece", 4, () -> x.outline(0));
        Check.due("the last piece", 4, () -> x.outline(2));
        for (int wrong : new int[] {-1, 3, 4, Integer.MIN_VALUE, Integer.MAX_VALUE}) {
            Check.due("piece " + wrong, Check.INDEX, () -> x.outline(wrong));
        }
    }

    private static void notParted() {
        Check.says("IllegalStateException (first); IndexOutOfBoundsException");
        States.ofAll((what, x) -> {
            Check.due("outline(0), " + what, Check.STATE, () -> x.outline(0));
            Check.due("outline(-1), " + what, Check.STATE, () -> x.outline(-1));
            Check.due("outline(2), " + what, Check.STATE, () -> x.outline(2));
        }, (what, x) -> Check.due("outline(0), " + what, 6, () -> x.outline(0)));
    }
}
