/** Promise 3: the colour of a kind, and whether it is another one. */
public final class Promise03KindTest {
    public static void main(String[] args) {
        whetherAnother();
        kindsAtTheirEnds();
        coloursAtTheirEnds();
        kindBeforeColour();
        throwingChangesNothing();
        sameColourTellsNone();
        anotherColourUnparts();
        backToTheOldColour();
        Check.end();
    }

    private static void whetherAnother() {
        Check.says("The colour of a KIND: whether it is another one");
        PictureInlays x = new PictureInlays(1, 1, 3);
        Check.due("black as at first", false, () -> x.kind(2, 0, 0, 0));
        Check.due("red alone", true, () -> x.kind(2, 255, 0, 0));
        Check.due("red again", false, () -> x.kind(2, 255, 0, 0));
        Check.due("green alone", true, () -> x.kind(2, 255, 1, 0));
        Check.due("blue alone", true, () -> x.kind(2, 255, 1, 255));
        Check.due("all the same", false, () -> x.kind(2, 255, 1, 255));
        Check.due("another kind is still black", false, () -> x.kind(1, 0, 0, 0));
        Check.due("places are still black", false, () -> x.pixel(0, 0, 0, 0, 0));
        Check.due("a colour that another kind has", true, () -> x.kind(1, 255, 1, 255));
        Check.due("back to black", true, () -> x.kind(2, 0, 0, 0));
    }

    private static void kindsAtTheirEnds() {
        Check.says("IndexOutOfBoundsException: there is no such place, kind, piece, corner");
        for (int kinds = 1; kinds <= 8; kinds++) {
            PictureInlays x = new PictureInlays(20, 20, kinds);
            for (int kind = -2; kind <= 9; kind++) {
                int k = kind;
                String due = k >= 0 && k < kinds ? "true" : Check.INDEX;
                Check.due("kind " + k + " of " + kinds, due, () -> x.kind(k, 1, 1, 1));
            }
            Check.due("far below", Check.INDEX, () -> x.kind(Integer.MIN_VALUE, 1, 1, 1));
            Check.due("far above", Check.INDEX, () -> x.kind(Integer.MAX_VALUE, 1, 1, 1));
        }
    }

    private static void coloursAtTheirEnds() {
        Check.says("KINDS 0 .. n - 1 have a colour, too");
        for (int c : new int[] {1, 254, 255}) {
            PictureInlays x = new PictureInlays(1, 1, 4);
            Check.due("red " + c, true, () -> x.kind(0, c, 0, 0));
            Check.due("green " + c, true, () -> x.kind(1, 0, c, 0));
            Check.due("blue " + c, true, () -> x.kind(2, 0, 0, c));
            Check.due("all " + c, true, () -> x.kind(3, c, c, c));
            Check.due("red 0", true, () -> x.kind(0, 0, 0, 0));
            Check.due("green 0", true, () -> x.kind(1, 0, 0, 0));
            Check.due("blue 0", true, () -> x.kind(2, 0, 0, 0));
        }
        PictureInlays x = new PictureInlays(1, 1, 3);
        for (int wrong : new int[] {-1, -2, 256, 257, Integer.MIN_VALUE, Integer.MAX_VALUE}) {
            Check.due("red " + wrong, Check.ARGUMENT, () -> x.kind(0, wrong, 0, 0));
            Check.due("green " + wrong, Check.ARGUMENT, () -> x.kind(0, 0, wrong, 0));
            Check.due("blue " + wrong, Check.ARGUMENT, () -> x.kind(0, 0, 0, wrong));
            Check.due("all " + wrong, Check.ARGUMENT, () -> x.kind(0, wrong, wrong, wrong));
        }
    }

    private static void kindBeforeColour() {
        Check.says("of several exceptions the one named first is thrown");
        PictureInlays x = new PictureInlays(1, 1, 3);
        for (int wrong : new int[] {-1, 256}) {
            Check.due("red", Check.INDEX, () -> x.kind(3, wrong, 0, 0));
            Check.due("green", Check.INDEX, () -> x.kind(-1, 0, wrong, 0));
            Check.due("blue", Check.INDEX, () -> x.kind(3, 0, 0, wrong));
            Check.due("all", Check.INDEX, () -> x.kind(-1, wrong, wrong, wrong));
        }
    }

    private static void throwingChangesNothing() {
        Check.says("A call that throws changes nothing");
        PictureInlays x = Drawn.parted(1, "01");
        x.nest(5, 5);
        Check.due("blue too large", Check.ARGUMENT, () -> x.kind(0, 7, 7, 256));
        Check.due("red too small", Check.ARGUMENT, () -> x.kind(0, -1, 7, 7));
        Check.due("no such kind", Check.INDEX, () -> x.kind(8, 7, 7, 7));
        Check.due("still parted", 1, () -> x.pieceOf(1, 0));
        Check.due("still nested", 1, () -> x.at(1, 0));
        Check.due("still black", false, () -> x.kind(0, 0, 0, 0));
    }

    private static void sameColourTellsNone() {
        Check.says("pixel() and kind() that answer false tell none");
        PictureInlays x = Drawn.parted(1, "01");
        x.nest(5, 5);
        Check.due("the same colour", false, () -> x.kind(1, 255, 255, 255));
        Check.due("of a kind that no piece has", false, () -> x.kind(7, 0, 255, 255));
        Check.due("still parted", 1, () -> x.pieceOf(1, 0));
        Check.due("still nested", 1, () -> x.at(1, 0));
    }

    private static void anotherColourUnparts() {
        Check.says("IllegalStateException: it was not PARTED since another colour was told");
        int[][] near = {{1, 255, 255}, {0, 254, 255}, {0, 255, 254}};
        for (int[] c : near) {
            PictureInlays x = Drawn.parted(1, "01");
            x.nest(5, 5);
            Check.due("another colour of a kind that no piece has", true, () -> x.kind(7, c[0], c[1], c[2]));
            Check.due("no longer parted", Check.STATE, () -> x.pieceOf(1, 0));
            Check.due("no longer nested", Check.STATE, () -> x.at(1, 0));
            Check.due("told again", false, () -> x.kind(7, c[0], c[1], c[2]));
            Check.due("still not parted", Check.STATE, () -> x.pieceOf(1, 0));
        }
    }

    private static void backToTheOldColour() {
        Check.says("IllegalStateException: it was not PARTED since another colour was told");
        PictureInlays x = Drawn.parted(1, "01");
        x.nest(5, 5);
        Check.due("another colour", true, () -> x.kind(1, 255, 255, 254));
        Check.due("and back", true, () -> x.kind(1, 255, 255, 255));
        Check.due("no longer parted", Check.STATE, () -> x.pieceOf(1, 0));
        Check.due("no longer nested", Check.STATE, () -> x.at(1, 0));
        Check.due("parted anew", 2, () -> x.part(1));
        Check.due("as it was", 1, () -> x.pieceOf(1, 0));
        Check.due("not yet nested anew", Check.STATE, () -> x.at(1, 0));
    }
}
