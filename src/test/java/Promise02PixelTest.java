/** Promise 2: the colour of a place, and whether it is another one. */
public final class Promise02PixelTest {
    public static void main(String[] args) {
        whetherAnother();
        wrongInputs();
        throwingChangesNothing();
        anotherColourUnparts();
        Check.end();
    }

    private static void whetherAnother() {
        PictureInlays x = new PictureInlays(3, 2, 2);
        Check.due("red alone", true, () -> x.pixel(2, 1, 1, 0, 0));
        Check.due("red again", false, () -> x.pixel(2, 1, 1, 0, 0));
        Check.due("green alone", true, () -> x.pixel(2, 1, 1, 255, 0));
        Check.due("blue alone", true, () -> x.pixel(2, 1, 1, 255, 255));
        Check.due("all the same", false, () -> x.pixel(2, 1, 1, 255, 255));
        Check.due("changed about", true, () -> x.pixel(2, 1, 255, 1, 255));
        Check.due("another place is still black", false, () -> x.pixel(1, 1, 0, 0, 0));
        Check.due("back to black", true, () -> x.pixel(2, 1, 0, 0, 0));
    }

    private static void wrongInputs() {
        PictureInlays x = new PictureInlays(3, 2, 2);
        int[][] noPlaces = {{-1, 0}, {3, 0}, {0, -1}, {0, 2}, {2, 2}, {Integer.MIN_VALUE, 0}, {0, Integer.MAX_VALUE}};
        for (int[] p : noPlaces) {
            Check.due("place " + p[0] + ", " + p[1], Check.INDEX, () -> x.pixel(p[0], p[1], 1, 1, 1));
            Check.due("place and colour " + p[0] + ", " + p[1], Check.INDEX, () -> x.pixel(p[0], p[1], 256, -1, 1));
        }
        for (int wrong : new int[] {-1, 256, Integer.MIN_VALUE, Integer.MAX_VALUE}) {
            Check.due("red " + wrong, Check.ARGUMENT, () -> x.pixel(0, 0, wrong, 0, 0));
            Check.due("green " + wrong, Check.ARGUMENT, () -> x.pixel(0, 0, 0, wrong, 0));
            Check.due("blue " + wrong, Check.ARGUMENT, () -> x.pixel(0, 0, 0, 0, wrong));
        }
    }

    private static void throwingChangesNothing() {
        PictureInlays x = Drawn.parted(1, "01");
        x.nest(5, 5);
        Check.due("blue too large", Check.ARGUMENT, () -> x.pixel(0, 0, 7, 7, 256));
        Check.due("red too small", Check.ARGUMENT, () -> x.pixel(0, 0, -1, 7, 7));
        Check.due("no such place", Check.INDEX, () -> x.pixel(2, 0, 7, 7, 7));
        Check.due("still parted", 1, () -> x.pieceOf(1, 0));
        Check.due("still nested", 1, () -> x.at(1, 0));
        Check.due("still black", false, () -> x.pixel(0, 0, 0, 0, 0));
    }

    private static void anotherColourUnparts() {
        PictureInlays x = Drawn.parted(1, "01");
        x.nest(5, 5);
        Check.due("the same colour", false, () -> x.pixel(1, 0, 255, 255, 255));
        Check.due("still parted", 1, () -> x.pieceOf(1, 0));
        Check.due("still nested", 1, () -> x.at(1, 0));
        Check.due("another colour", true, () -> x.pixel(1, 0, 255, 255, 254));
        Check.due("and back", true, () -> x.pixel(1, 0, 255, 255, 255));
        Check.due("no longer parted", Check.STATE, () -> x.pieceOf(1, 0));
        Check.due("no longer nested", Check.STATE, () -> x.at(1, 0));
        Check.due("parted anew", 2, () -> x.part(1));
        Check.due("as it was", 1, () -> x.pieceOf(1, 0));
        Check.due("not yet nested anew", Check.STATE, () -> x.at(1, 0));
    }
}
