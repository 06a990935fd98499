/** Promise 4: PARTED, and how many pieces. */
public final class Promise04PartTest {
    public static void main(String[] args) {
        nearestKind();
        kindsThatAreAlike();
        hangTogetherBySides();
        onePieceAlone();
        leastThatNoPieceReaches();
        fewerPlacesThanTold();
        fewestPlacesFirst();
        mostSidesInCommon();
        allPiecesMadeAnew();
        partedFromTheColoursAgain();
        leastAtItsEnds();
        throwingChangesNothing();
        Check.end();
    }

    private static void nearestKind() {
        Check.says("the KIND of which the sum of the sizes of all three differences is least (of several the least)");
        PictureInlays x = new PictureInlays(1, 1, 3);
        x.kind(0, 100, 0, 0);
        x.kind(1, 0, 60, 39);
        x.kind(2, 33, 33, 32);
        x.part(1);
        Check.due("the least sum of sizes", 2, () -> x.piece(0, 0));
        x.kind(2, 33, 33, 33);
        x.part(1);
        Check.due("of several the least, as far below as above", 1, () -> x.piece(0, 0));
        x.kind(0, 0, 0, 99);
        x.part(1);
        Check.due("of three the least", 0, () -> x.piece(0, 0));
        x.pixel(0, 0, 255, 255, 255);
        x.kind(0, 255, 255, 155);
        x.kind(1, 255, 156, 255);
        x.kind(2, 205, 205, 254);
        x.part(1);
        Check.due("differences the other way round", 1, () -> x.piece(0, 0));
        x.pixel(0, 0, 100, 100, 100);
        x.kind(0, 90, 110, 111);
        x.kind(1, 110, 90, 90);
        x.kind(2, 131, 100, 100);
        x.part(1);
        Check.due("sizes do not make up for one another", 1, () -> x.piece(0, 0));
        x.kind(1, 131, 100, 100);
        x.part(1);
        Check.due("nor for signs", 0, () -> x.piece(0, 0));
    }

    private static void kindsThatAreAlike() {
        Check.says("(of several the least)");
        PictureInlays x = new PictureInlays(2, 1, 8);
        x.pixel(1, 0, 255, 255, 255);
        Check.due("all kinds are black: one piece", 1, () -> x.part(1));
        Check.due("of the least kind", 0, () -> x.piece(0, 0));
        for (int kind = 0; kind < 8; kind++) {
            x.kind(kind, 255, 255, 255);
        }
        Check.due("all kinds are white: one piece", 1, () -> x.part(1));
        Check.due("again of the least kind", 0, () -> x.piece(0, 0));
        x.kind(0, 0, 0, 0);
        x.kind(7, 0, 0, 0);
        Check.due("two kinds and more of each", 2, () -> x.part(1));
        Check.due("black: 0 before 7", 0, () -> x.piece(0, 0));
        Check.due("white: 1 before the others", 1, () -> x.piece(1, 0));
        PictureInlays single = new PictureInlays(2, 1, 1);
        single.pixel(1, 0, 255, 255, 255);
        Check.due("one kind alone: one piece", 1, () -> single.part(1));
    }

    private static void hangTogetherBySides() {
        Check.says("PIECES are places of one kind that hang together by sides, as many as do");
        PictureInlays corners = Drawn.picture("01", "10");
        Check.due("corners alone do not hang together", 4, () -> corners.part(1));
        Check.same("numbered row by row", "01/23", Drawn.numbers(corners, 2, 2));
        PictureInlays ring = Drawn.picture("0001", "0200", "0000");
        Check.due("a ring and what is in it", 3, () -> ring.part(1));
        Check.same("numbers of the ring", "0001/0200/0000", Drawn.numbers(ring, 4, 3));
        PictureInlays edges = Drawn.picture("011", "110", "000");
        Check.due("a row's end does not touch the next one's start", 3, () -> edges.part(1));
        Check.same("numbers at the edges", "011/112/222", Drawn.numbers(edges, 3, 3));
        PictureInlays bay = Drawn.picture("101", "111", "000");
        Check.due("two arms of one piece", 3, () -> bay.part(1));
        Check.same("numbers of the bay", "010/000/222", Drawn.numbers(bay, 3, 3));
        PictureInlays sides = Drawn.picture("01110", "01110");
        Check.due("the left and the right edge do not touch", 3, () -> sides.part(1));
        PictureInlays ends = Drawn.picture("00", "11", "00");
        Check.due("the upper and the lower edge do not touch", 3, () -> ends.part(1));
        PictureInlays snake = Drawn.picture("00000", "11110", "00000", "01111", "00000");
        Check.due("a snake is one piece", 3, () -> snake.part(1));
        Check.same("numbers of the snake", "00000/11110/00000/02222/00000", Drawn.numbers(snake, 5, 5));
    }

    private static void onePieceAlone() {
        Check.says("While there is more than one piece");
        for (int least : new int[] {1, 2, 399, 400}) {
            PictureInlays single = new PictureInlays(1, 1, 1);
            Check.due("one place, least " + least, 1, () -> single.part(least));
            Check.due("it has one place", 1, () -> single.piece(0, 1));
            PictureInlays large = new PictureInlays(20, 20, 8);
            Check.due("all places of one kind, least " + least, 1, () -> large.part(least));
            Check.due("it has all places", 400, () -> large.piece(0, 1));
        }
        joins("one piece is enough", 400, "3333/3333", "3333", "3333");
    }

    private static void leastThatNoPieceReaches() {
        Check.says("While there is more than one piece, and one with fewer places than is told");
        joins("until one piece is left", 400, "1111", "0120");
        joins("as many as all places", 4, "1111", "0120");
        joins("one more than all places", 5, "1111", "0120");
        PictureInlays x = new PictureInlays(20, 20, 2);
        x.kind(1, 255, 255, 255);
        for (int place = 0; place < 400; place++) {
            int column = place % 20;
            x.pixel(column, place / 20, 255 * (column / 10), 255 * (column / 10), 255 * (column / 10));
        }
        Check.due("both have as many", 2, () -> x.part(200));
        Check.due("neither has as many", 1, () -> x.part(201));
        Check.due("of as many the first was joined", 1, () -> x.piece(0, 0));
        Check.due("neither by far", 1, () -> x.part(400));
        Check.due("all places", 400, () -> x.piece(0, 1));
    }

    private static void fewerPlacesThanTold() {
        Check.says("one with fewer places than is told");
        joins("none is small enough", 1, "001/001", "001", "001");
        joins("as many as is told are enough", 2, "0011", "0011");
        joins("one fewer is too few", 3, "1111", "0011");
        joins("the larger one stays", 3, "000111", "000111");
        joins("only the small one is joined", 3, "000000/000111", "002200", "000111");
        joins("what is joined may still be too small", 4, "11111", "00111");
    }

    private static void fewestPlacesFirst() {
        Check.says("of these the one with the fewest places (of several that whose first place, row by row, comes first)");
        joins("the fewest places first", 3, "0002222", "0012222");
        joins("a later one with fewer", 3, "0004444/0004444", "0012444", "0014444");
        joins("of two with two places each the first", 3, "11112222", "00112222");
        joins("of the smallest the first", 2, "1122", "0122");
        joins("row by row, not column by column", 2, "222/222/222", "221", "222", "022");
        joins("the upper one first, and then it is as large", 2, "11/11/22", "01", "31", "22");
        joins("the left one first, the other is large enough then", 3, "111122/111122", "001122", "111122");
        joins("of three the first, then the last, for it is the only small one", 3, "111111", "001122");
    }

    private static void mostSidesInCommon() {
        Check.says("most sides in common (of several the one whose first place comes first)");
        joins("most sides with the first", 2, "0011122/0001122", "0311122", "0001122");
        joins("most sides with a later one", 2, "0111/0111", "0311", "0111");
        joins("of as many sides the first place", 2, "00011", "00211");
        joins("the first place, not the least kind", 2, "11100", "11200");
        joins("above before beside", 2, "3330/3300", "3330", "3200");
        joins("all sides of the border count", 4, "00000/00000/00000/22222", "00000", "03330", "01110", "22222");
        joins("pieces are compared, not kinds", 2, "00000/11111/10001/11111", "00000", "11311", "10001", "11111");
        joins("the picture's edge is no neighbour", 2, "11/11", "01", "11");
    }

    private static void allPiecesMadeAnew() {
        Check.says("and all pieces are made anew");
        joins("several become one at once", 4, "000002222", "001002222");
        joins("what hangs together then is large enough", 5, "00000/22222", "00100", "22222");
        joins("the first takes the second's kind, so that is large enough", 2, "1122/2222", "0102", "2222");
        PictureInlays x = Drawn.picture("0102", "2222");
        Check.due("numbers of before", 4, () -> x.part(1));
        Check.same("numbered by first places", "0123/3333", Drawn.numbers(x, 4, 2));
        Check.due("numbers of after", 2, () -> x.part(2));
        Check.same("numbered anew", "0011/1111", Drawn.numbers(x, 4, 2));
    }

    private static void joins(String what, int least, String want, String... rows) {
        PictureInlays x = Drawn.parted(least, rows);
        Check.same(what, want, Drawn.woods(x, rows[0].length(), rows.length));
    }

    private static void partedFromTheColoursAgain() {
        Check.says("PARTED: each place gets the KIND");
        PictureInlays x = Drawn.picture("00100", "00000");
        Check.due("small ones joined", 1, () -> x.part(2));
        Check.due("the colours stand as they were told", false, () -> Drawn.paint(x, 2, 0, 1));
        Check.due("and are parted from", 2, () -> x.part(1));
        Check.due("and joined again", 1, () -> x.part(400));
    }

    private static void leastAtItsEnds() {
        Check.says("IllegalArgumentException: least is not 1 .. 400");
        PictureInlays x = Drawn.picture("0100", "0000");
        for (int least : new int[] {0, -1, -400, 401, 402, Integer.MIN_VALUE, Integer.MAX_VALUE}) {
            Check.due("least " + least, Check.ARGUMENT, () -> x.part(least));
        }
        Check.due("the smallest least", 2, () -> x.part(1));
        Check.due("the next", 1, () -> x.part(2));
        Check.due("the largest least", 1, () -> x.part(400));
        Check.due("the one before", 1, () -> x.part(399));
    }

    private static void throwingChangesNothing() {
        Check.says("A call that throws changes nothing");
        PictureInlays x = Drawn.parted(1, "0100", "0000");
        x.nest(9, 9);
        Check.due("least too small", Check.ARGUMENT, () -> x.part(0));
        Check.due("least too large", Check.ARGUMENT, () -> x.part(401));
        Check.due("still parted", 1, () -> x.pieceOf(1, 0));
        Check.due("still nested", 0, () -> x.at(0, 0));
        PictureInlays unparted = Drawn.picture("0100", "0000");
        Check.due("least too small", Check.ARGUMENT, () -> unparted.part(0));
        Check.due("least too large", Check.ARGUMENT, () -> unparted.part(401));
        Check.due("still not parted", Check.STATE, () -> unparted.pieceOf(0, 0));
    }
}
