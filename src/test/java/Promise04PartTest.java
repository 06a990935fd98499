/** Promise 4: PARTED, and how many pieces. */
public final class Promise04PartTest {
    public static void main(String[] args) {
        nearestKind();
        hangTogetherBySides();
        joining();
        joiningAgainFromTheColours();
        wrongInputs();
        Check.end();
    }

    private static void nearestKind() {
        PictureInlays x = new PictureInlays(1, 1, 3);
        x.kind(0, 100, 0, 0);
        x.kind(1, 0, 60, 39);
        x.kind(2, 33, 33, 32);
        x.part(1);
        Check.due("the least sum of sizes", 2, () -> x.piece(0, 0));
        x.kind(2, 33, 33, 33);
        x.part(1);
        Check.due("of several the least, as far below as above", 1, () -> x.piece(0, 0));
        x.kind(0, 0, 0, 99);
        x.part(1);
        Check.due("of three the least", 0, () -> x.piece(0, 0));
        x.pixel(0, 0, 255, 255, 255);
        x.kind(0, 255, 255, 155);
        x.kind(1, 255, 156, 255);
        x.kind(2, 205, 205, 254);
        x.part(1);
        Check.due("differences the other way round", 1, () -> x.piece(0, 0));
    }

    private static void hangTogetherBySides() {
        PictureInlays corners = Drawn.picture("01", "10");
        Check.due("corners alone do not hang together", 4, () -> corners.part(1));
        Check.same("numbered row by row", "01/23", Drawn.numbers(corners, 2, 2));
        PictureInlays ring = Drawn.picture("0001", "0200", "0000");
        Check.due("a ring and what is in it", 3, () -> ring.part(1));
        Check.same("numbers of the ring", "0001/0200/0000", Drawn.numbers(ring, 4, 3));
        PictureInlays edges = Drawn.picture("011", "110", "000");
        Check.due("a row's end does not touch the next one's start", 3, () -> edges.part(1));
        Check.same("numbers at the edges", "011/112/222", Drawn.numbers(edges, 3, 3));
        PictureInlays bay = Drawn.picture("101", "111", "000");
        Check.due("two arms of one piece", 3, () -> bay.part(1));
        Check.same("numbers of the bay", "010/000/222", Drawn.numbers(bay, 3, 3));
    }

    private static void joining() {
        joins("none is small enough", 1, "001/001", "001", "001");
        joins("as many as is told are enough", 2, "0011", "0011");
        joins("one fewer is too few", 3, "1111", "0011");
        joins("most sides with the first", 2, "0011122/0001122", "0311122", "0001122");
        joins("most sides with a later one", 2, "0111/0111", "0311", "0111");
        joins("of as many sides the first place", 2, "00011", "00211");
        joins("the first place, not the least kind", 2, "11100", "11200");
        joins("above before beside", 2, "3330/3300", "3330", "3200");
        joins("the fewest places first", 3, "0002222", "0012222");
        joins("of the smallest the first", 2, "1122", "0122");
        joins("what is joined may still be too small", 4, "11111", "00111");
        joins("until one piece is left", 400, "1111", "0120");
        joins("one piece is enough", 400, "3333/3333", "3333", "3333");
        joins("several become one at once", 4, "000002222", "001002222");
        joins("all sides of the border count", 4, "00000/00000/00000/22222", "00000", "03330", "01110", "22222");
        joins("pieces are compared, not kinds", 2, "00000/11111/10001/11111", "00000", "11311", "10001", "11111");
    }

    private static void joins(String what, int least, String want, String... rows) {
        PictureInlays x = Drawn.parted(least, rows);
        Check.same(what, want, Drawn.woods(x, rows[0].length(), rows.length));
    }

    private static void joiningAgainFromTheColours() {
        PictureInlays x = Drawn.picture("00100", "00000");
        Check.due("small ones joined", 1, () -> x.part(2));
        Check.due("the colours stand as they were told", 2, () -> x.part(1));
        Check.due("and joined again", 1, () -> x.part(400));
    }

    private static void wrongInputs() {
        PictureInlays x = Drawn.parted(1, "0100", "0000");
        x.nest(9, 9);
        for (int least : new int[] {0, -1, 401, Integer.MIN_VALUE, Integer.MAX_VALUE}) {
            Check.due("least " + least, Check.ARGUMENT, () -> x.part(least));
        }
        Check.due("still parted", 1, () -> x.pieceOf(1, 0));
        Check.due("still nested", 0, () -> x.at(0, 0));
        PictureInlays unparted = Drawn.picture("0100", "0000");
        Check.due("least too small", Check.ARGUMENT, () -> unparted.part(0));
        Check.due("still not parted", Check.STATE, () -> unparted.pieceOf(0, 0));
        Check.due("the largest least", 1, () -> unparted.part(400));
        Check.due("the smallest least", 2, () -> unparted.part(1));
    }
}
