/** Promise 14: where a piece lies on the sheet of the latest nest(). */
public final class Promise14AtTest {
    public static void main(String[] args) {
        ordinary();
        higherAndWiderFirst();
        firstRowThatHasRoom();
        justFull();
        leftOut();
        latestOfTwo();
        nestThatThrows();
        notNested();
        notParted();
        sameColourTellsNone();
        piecesAtTheirEnds();
        axisAtItsEnds();
        Check.end();
    }

    private static void lies(PictureInlays x, int w, int h, int count, String due) {
        x.nest(w, h);
        StringBuilder text = new StringBuilder();
        for (int piece = 0; piece < count; piece++) {
            text.append(piece == 0 ? "" : " ").append(x.at(piece, 0)).append(',').append(x.at(piece, 1));
        }
        Check.same("nest(" + w + ", " + h + ")", due, text);
    }

    private static void ordinary() {
        Check.says("Where a piece lies on the sheet of the latest nest(): x (axis = 0), y (1)");
        PictureInlays x = Drawn.parted(1,
                "0111222",
                "0111222",
                "0333344",
                "0556666");
        // Rectangles: 0 is 1 by 4, 1 and 2 are 3 by 2, 3 is 4 by 1, 4 is 2 by 1, 5 is 2 by 1, 6 is 4 by 1.
        lies(x, 7, 9, 7, "0,0 1,0 4,0 0,4 4,4 4,5 0,5");
        lies(x, 4, 8, 7, "0,0 1,0 0,4 0,6 -1,-1 -1,-1 0,7");
        lies(x, 3, 6, 7, "0,0 0,4 -1,-1 -1,-1 1,0 -1,-1 -1,-1");
    }

    private static void higherAndWiderFirst() {
        Check.says("the higher ones first (of the same height the wider, then the lesser number)");
        lies(Drawn.parted(1, "012", "312", "342"), 9, 9, 5, "3,0 1,0 0,0 2,0 4,0");
        lies(Drawn.parted(1, "011222"), 9, 9, 3, "5,0 3,0 0,0");
        lies(Drawn.parted(1, "210"), 9, 9, 3, "0,0 1,0 2,0");
        lies(Drawn.parted(1, "001", "221"), 9, 9, 3, "1,0 0,0 3,0");
        PictureInlays angle = Drawn.parted(1, "0111", "0001");
        Check.says("pieces as the rectangles that hold them");
        lies(angle, 9, 9, 2, "0,0 3,0");
        lies(angle, 5, 9, 2, "0,0 0,2");
    }

    private static void firstRowThatHasRoom() {
        Check.says("each in the first row that has room for it (across, and no higher than the row), else in a new row below");
        PictureInlays x = Drawn.parted(1, "00012", "00012", "00012", "44443", "44443");
        // Rectangles: 0 is 3 by 3, 1 and 2 are 1 by 3, 3 is 4 by 2, 4 is 1 by 2.
        Check.same("numbers", "00012/00012/00012/33334/33334", Drawn.numbers(x, 5, 5));
        lies(x, 4, 5, 5, "0,0 3,0 -1,-1 0,3 -1,-1");
        lies(x, 4, 8, 5, "0,0 3,0 0,3 0,6 1,3");
        PictureInlays back = Drawn.parted(1, "000111", "222223", "444455");
        // All of them one row high: 2 of five, 4 of four, 0 and 1 of three, 5 of two, 3 of one.
        Check.same("numbers", "000111/222223/444455", Drawn.numbers(back, 6, 3));
        lies(back, 6, 9, 6, "0,2 3,2 0,0 5,0 0,1 4,1");
        lies(back, 7, 9, 6, "4,1 0,2 0,0 3,2 0,1 5,0");
    }

    private static void justFull() {
        Check.says("as high as it is; one that does not fit so is left out");
        PictureInlays x = Drawn.parted(1, "0011", "0011", "2233", "2233");
        lies(x, 4, 4, 4, "0,0 2,0 0,2 2,2");
        lies(x, 4, 3, 4, "0,0 2,0 -1,-1 -1,-1");
        lies(x, 3, 4, 4, "0,0 0,2 -1,-1 -1,-1");
        lies(x, 8, 2, 4, "0,0 2,0 4,0 6,0");
        lies(x, 2, 8, 4, "0,0 0,2 0,4 0,6");
        PictureInlays places = Drawn.parted(1, "01234");
        lies(places, 2, 2, 5, "0,0 1,0 0,1 1,1 -1,-1");
    }

    private static void leftOut() {
        Check.says("NONE if it was left out");
        PictureInlays x = Drawn.parted(1, "0011", "0011");
        lies(x, 1, 1, 2, "-1,-1 -1,-1");
        lies(x, 2, 2, 2, "0,0 -1,-1");
        lies(x, 2, 4, 2, "0,0 0,2");
        lies(x, 1, 100, 2, "-1,-1 -1,-1");
        Check.due("it is NONE, across", PictureInlays.NONE, () -> x.at(0, 0));
        Check.due("and down", PictureInlays.NONE, () -> x.at(0, 1));
    }

    private static void latestOfTwo() {
        Check.says("on the sheet of the latest nest()");
        PictureInlays x = Drawn.parted(1, "01");
        lies(x, 2, 1, 2, "0,0 1,0");
        lies(x, 1, 2, 2, "0,0 0,1");
        lies(x, 1, 1, 2, "0,0 -1,-1");
        lies(x, 100, 100, 2, "0,0 1,0");
    }

    private static void nestThatThrows() {
        Check.says("A call that throws changes nothing");
        PictureInlays x = Drawn.parted(1, "01");
        Check.due("refused", Check.ARGUMENT, () -> x.nest(101, 1));
        Check.due("nothing was nested", Check.STATE, () -> x.at(0, 0));
        x.nest(1, 2);
        Check.due("refused", Check.ARGUMENT, () -> x.nest(2, 0));
        Check.due("where it was, across", 0, () -> x.at(1, 0));
        Check.due("where it was, down", 1, () -> x.at(1, 1));
        Drawn.paint(x, 0, 0, 2);
        Check.due("not parted", Check.STATE, () -> x.nest(2, 1));
        Check.due("nothing was nested since", Check.STATE, () -> x.at(1, 1));
        x.part(1);
        Check.due("nor by that call", Check.STATE, () -> x.at(1, 1));
    }

    private static void notNested() {
        Check.says("IllegalStateException: nothing was NESTED since it was PARTED (first)");
        PictureInlays x = Drawn.picture("01");
        Check.due("neither parted nor nested", Check.STATE, () -> x.at(0, 0));
        x.part(1);
        Check.due("not nested", Check.STATE, () -> x.at(0, 0));
        Check.due("before the piece", Check.STATE, () -> x.at(-1, 0));
        Check.due("before the piece above", Check.STATE, () -> x.at(2, 0));
        Check.due("before the axis", Check.STATE, () -> x.at(0, 2));
        Check.due("before both", Check.STATE, () -> x.at(2, -1));
        x.nest(2, 1);
        Check.due("nested", 1, () -> x.at(1, 0));
        x.part(1);
        Check.due("parted again", Check.STATE, () -> x.at(1, 0));
        x.nest(1, 1);
        Check.due("nested again", -1, () -> x.at(1, 0));
        Check.due("a part() that throws", Check.ARGUMENT, () -> x.part(0));
        Check.due("nested as it was", -1, () -> x.at(1, 0));
    }

    private static void notParted() {
        Check.says("IllegalStateException: it was not PARTED since another colour was told");
        States.ofAll((what, x) -> {
            Check.due("at(0, 0), " + what, Check.STATE, () -> x.at(0, 0));
            Check.due("at(-1, 2), " + what, Check.STATE, () -> x.at(-1, 2));
            x.part(1);
            Check.due("at(0, 0), parted, but not nested, " + what, Check.STATE, () -> x.at(0, 0));
        }, (what, x) -> {
            Check.due("at(0, 0), not nested, " + what, Check.STATE, () -> x.at(0, 0));
            x.nest(9, 9);
            Check.due("at(1, 0), " + what, 2, () -> x.at(1, 0));
        });
        PictureInlays place = Drawn.parted(1, "01");
        place.nest(2, 1);
        Drawn.paint(place, 0, 0, 2);
        Check.due("another colour of a place", Check.STATE, () -> place.at(0, 0));
        Check.due("before piece and axis", Check.STATE, () -> place.at(2, 2));
        PictureInlays wood = Drawn.parted(1, "01");
        wood.nest(2, 1);
        wood.kind(7, 1, 2, 3);
        Check.due("another colour of a kind", Check.STATE, () -> wood.at(0, 0));
    }

    private static void sameColourTellsNone() {
        Check.says("pixel() and kind() that answer false tell none");
        PictureInlays x = Drawn.parted(1, "01");
        x.nest(2, 1);
        Check.due("the same colour of a place", false, () -> Drawn.paint(x, 1, 0, 1));
        Check.due("the same colour of a kind", false, () -> x.kind(1, 255, 255, 255));
        Check.due("still nested", 1, () -> x.at(1, 0));
    }

    private static void piecesAtTheirEnds() {
        Check.says("IndexOutOfBoundsException: there is no such place, kind, piece, corner");
        PictureInlays x = Drawn.parted(1, "01");
        x.nest(1, 1);
        for (int wrong : new int[] {-1, -2, 2, 3, Integer.MIN_VALUE, Integer.MAX_VALUE}) {
            Check.due("piece " + wrong, Check.INDEX, () -> x.at(wrong, 0));
            Check.due("piece and axis " + wrong, Check.INDEX, () -> x.at(wrong, wrong));
        }
        Check.due("the first piece", 0, () -> x.at(0, 1));
        Check.due("the last piece, left out", -1, () -> x.at(1, 1));
    }

    private static void axisAtItsEnds() {
        Check.says("IndexOutOfBoundsException: also of axis");
        PictureInlays x = Drawn.parted(1, "01");
        x.nest(1, 1);
        for (int wrong : new int[] {-1, -2, 2, 3, Integer.MIN_VALUE, Integer.MAX_VALUE}) {
            Check.due("axis " + wrong, Check.INDEX, () -> x.at(0, wrong));
            Check.due("axis of one that was left out " + wrong, Check.INDEX, () -> x.at(1, wrong));
        }
    }
}
