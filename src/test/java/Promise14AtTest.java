/** Promise 14: where a piece lies on the sheet of the latest nest(). */
public final class Promise14AtTest {
    public static void main(String[] args) {
        PictureInlays x = Drawn.parted(1,
                "0111222",
                "0111222",
                "0333344",
                "0556666");
        // Rectangles: 0 is 1 by 4, 1 and 2 are 3 by 2, 3 is 4 by 1, 4 is 2 by 1, 5 is 2 by 1, 6 is 4 by 1.
        lies(x, 7, 9, 7, "0,0 1,0 4,0 0,4 4,4 4,5 0,5");
        lies(x, 4, 8, 7, "0,0 1,0 0,4 0,6 -1,-1 -1,-1 0,7");
        lies(x, 3, 6, 7, "0,0 0,4 -1,-1 -1,-1 1,0 -1,-1 -1,-1");
        firstRowThatHasRoom();
        states();
        Check.end();
    }

    private static void lies(PictureInlays x, int w, int h, int count, String due) {
        x.nest(w, h);
        StringBuilder text = new StringBuilder();
        for (int piece = 0; piece < count; piece++) {
            text.append(piece == 0 ? "" : " ").append(x.at(piece, 0)).append(',').append(x.at(piece, 1));
        }
        Check.same("nest(" + w + ", " + h + ")", due, text);
    }

    private static void firstRowThatHasRoom() {
        PictureInlays x = Drawn.parted(1, "00012", "00012", "00012", "44443", "44443");
        // Rectangles: 0 is 3 by 3, 1 and 2 are 1 by 3, 3 is 4 by 2, 4 is 1 by 2.
        Check.same("numbers", "00012/00012/00012/33334/33334", Drawn.numbers(x, 5, 5));
        lies(x, 4, 5, 5, "0,0 3,0 -1,-1 0,3 -1,-1");
        lies(x, 4, 8, 5, "0,0 3,0 0,3 0,6 1,3");
    }

    private static void states() {
        PictureInlays x = Drawn.parted(1, "01");
        Check.due("not nested", Check.STATE, () -> x.at(0, 0));
        Check.due("not nested is told first", Check.STATE, () -> x.at(-1, 2));
        x.nest(2, 1);
        Check.due("x", 1, () -> x.at(1, 0));
        Check.due("y", 0, () -> x.at(1, 1));
        for (int wrong : new int[] {-1, 2, Integer.MIN_VALUE, Integer.MAX_VALUE}) {
            Check.due("piece " + wrong, Check.INDEX, () -> x.at(wrong, 0));
            Check.due("axis " + wrong, Check.INDEX, () -> x.at(0, wrong));
        }
        x.nest(1, 1);
        Check.due("the latest sheet counts", -1, () -> x.at(1, 0));
        x.part(1);
        Check.due("parted anew", Check.STATE, () -> x.at(0, 0));
        x.nest(2, 1);
        Drawn.paint(x, 0, 0, 2);
        Check.due("another colour", Check.STATE, () -> x.at(0, 0));
    }
}
