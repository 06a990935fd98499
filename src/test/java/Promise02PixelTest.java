/** Promise 2: the colour of a place, and whether it is another one. */
public final class Promise02PixelTest {
    public static void main(String[] args) {
        whetherAnother();
        placesAtTheirEnds();
        coloursAtTheirEnds();
        placeBeforeColour();
        throwingChangesNothing();
        sameColourTellsNone();
        anotherColourUnparts();
        backToTheOldColour();
        Check.end();
    }

    private static void whetherAnother() {
        Check.says("The colour of a place: whether it is another one");
        PictureInlays x = new PictureInlays(3, 2, 2);
        Check.due("black as at first", false, () -> x.pixel(2, 1, 0, 0, 0));
        Check.due("red alone", true, () -> x.pixel(2, 1, 1, 0, 0));
        Check.due("red again", false, () -> x.pixel(2, 1, 1, 0, 0));
        Check.due("green alone", true, () -> x.pixel(2, 1, 1, 255, 0));
        Check.due("blue alone", true, () -> x.pixel(2, 1, 1, 255, 255));
        Check.due("all the same", false, () -> x.pixel(2, 1, 1, 255, 255));
        Check.due("changed about", true, () -> x.pixel(2, 1, 255, 1, 255));
        Check.due("another place is still black", false, () -> x.pixel(1, 1, 0, 0, 0));
        Check.due("back to black", true, () -> x.pixel(2, 1, 0, 0, 0));
    }

    private static void placesAtTheirEnds() {
        Check.says("IndexOutOfBoundsException: there is no such place");
        PictureInlays x = new PictureInlays(3, 2, 2);
        for (int row = -2; row <= 3; row++) {
            for (int column = -2; column <= 4; column++) {
                boolean inside = row >= 0 && row <= 1 && column >= 0 && column <= 2;
                int c = column;
                int r = row;
                Check.due("place " + c + ", " + r, inside ? "true" : Check.INDEX, () -> x.pixel(c, r, 9, 9, 9));
            }
        }
        int[][] far = {{Integer.MIN_VALUE, 0}, {Integer.MAX_VALUE, 0}, {0, Integer.MIN_VALUE}, {0, Integer.MAX_VALUE},
            {Integer.MIN_VALUE, Integer.MAX_VALUE}, {-3, 1}, {3, -1}, {-1, 2}};
        for (int[] p : far) {
            Check.due("place " + p[0] + ", " + p[1], Check.INDEX, () -> x.pixel(p[0], p[1], 1, 1, 1));
        }
        PictureInlays single = new PictureInlays(1, 1, 1);
        Check.due("the only place", true, () -> single.pixel(0, 0, 1, 1, 1));
        Check.due("right of it", Check.INDEX, () -> single.pixel(1, 0, 1, 1, 1));
        Check.due("below it", Check.INDEX, () -> single.pixel(0, 1, 1, 1, 1));
    }

    private static void coloursAtTheirEnds() {
        Check.says("places with a colour of three numbers 0 .. 255");
        for (int c : new int[] {1, 254, 255}) {
            PictureInlays x = new PictureInlays(3, 2, 2);
            Check.due("red " + c, true, () -> x.pixel(0, 0, c, 0, 0));
            Check.due("green " + c, true, () -> x.pixel(1, 0, 0, c, 0));
            Check.due("blue " + c, true, () -> x.pixel(2, 0, 0, 0, c));
            Check.due("all " + c, true, () -> x.pixel(0, 1, c, c, c));
            Check.due("red 0", true, () -> x.pixel(0, 0, 0, 0, 0));
            Check.due("green 0", true, () -> x.pixel(1, 0, 0, 0, 0));
            Check.due("blue 0", true, () -> x.pixel(2, 0, 0, 0, 0));
        }
        PictureInlays x = new PictureInlays(3, 2, 2);
        for (int wrong : new int[] {-1, -2, 256, 257, Integer.MIN_VALUE, Integer.MAX_VALUE}) {
            Check.due("red " + wrong, Check.ARGUMENT, () -> x.pixel(0, 0, wrong, 0, 0));
            Check.due("green " + wrong, Check.ARGUMENT, () -> x.pixel(0, 0, 0, wrong, 0));
            Check.due("blue " + wrong, Check.ARGUMENT, () -> x.pixel(0, 0, 0, 0, wrong));
            Check.due("all " + wrong, Check.ARGUMENT, () -> x.pixel(0, 0, wrong, wrong, wrong));
        }
    }

    private static void placeBeforeColour() {
        Check.says("of several exceptions the one named first is thrown");
        PictureInlays x = new PictureInlays(3, 2, 2);
        for (int wrong : new int[] {-1, 256}) {
            Check.due("no column, red", Check.INDEX, () -> x.pixel(3, 0, wrong, 0, 0));
            Check.due("no column, blue", Check.INDEX, () -> x.pixel(-1, 0, 0, 0, wrong));
            Check.due("no row, green", Check.INDEX, () -> x.pixel(0, 2, 0, wrong, 0));
            Check.due("no row, all", Check.INDEX, () -> x.pixel(0, -1, wrong, wrong, wrong));
        }
    }

    private static void throwingChangesNothing() {
        Check.says("A call that throws changes nothing");
        PictureInlays x = Drawn.parted(1, "01");
        x.nest(5, 5);
        Check.due("blue too large", Check.ARGUMENT, () -> x.pixel(0, 0, 7, 7, 256));
        Check.due("red too small", Check.ARGUMENT, () -> x.pixel(0, 0, -1, 7, 7));
        Check.due("no such place", Check.INDEX, () -> x.pixel(2, 0, 7, 7, 7));
        Check.due("still parted", 1, () -> x.pieceOf(1, 0));
        Check.due("still nested", 1, () -> x.at(1, 0));
        Check.due("still black", false, () -> x.pixel(0, 0, 0, 0, 0));
    }

    private static void sameColourTellsNone() {
        Check.says("pixel() and kind() that answer false tell none");
        PictureInlays x = Drawn.parted(1, "01");
        x.nest(5, 5);
        Check.due("the same colour", false, () -> x.pixel(1, 0, 255, 255, 255));
        Check.due("the first one's, too", false, () -> x.pixel(0, 0, 0, 0, 0));
        Check.due("still parted", 1, () -> x.pieceOf(1, 0));
        Check.due("still nested", 1, () -> x.at(1, 0));
    }

    private static void anotherColourUnparts() {
        Check.says("IllegalStateException: it was not PARTED since another colour was told");
        int[][] near = {{254, 255, 255}, {255, 254, 255}, {255, 255, 254}};
        for (int[] c : near) {
            PictureInlays x = Drawn.parted(1, "01");
            x.nest(5, 5);
            Check.due("another colour, of the same kind", true, () -> x.pixel(1, 0, c[0], c[1], c[2]));
            Check.due("no longer parted", Check.STATE, () -> x.pieceOf(1, 0));
            Check.due("no longer nested", Check.STATE, () -> x.at(1, 0));
            Check.due("told again", false, () -> x.pixel(1, 0, c[0], c[1], c[2]));
            Check.due("still not parted", Check.STATE, () -> x.pieceOf(1, 0));
        }
    }

    private static void backToTheOldColour() {
        Check.says("IllegalStateException: it was not PARTED since another colour was told");
        PictureInlays x = Drawn.parted(1, "01");
        x.nest(5, 5);
        Check.due("another colour", true, () -> x.pixel(1, 0, 255, 255, 254));
        Check.due("and back", true, () -> x.pixel(1, 0, 255, 255, 255));
        Check.due("no longer parted", Check.STATE, () -> x.pieceOf(1, 0));
        Check.due("no longer nested", Check.STATE, () -> x.at(1, 0));
        Check.due("parted anew", 2, () -> x.part(1));
        Check.due("as it was", 1, () -> x.pieceOf(1, 0));
        Check.due("not yet nested anew", Check.STATE, () -> x.at(1, 0));
    }
}
