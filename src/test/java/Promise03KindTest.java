/** Promise 3: the colour of a kind, and whether it is another one. */
public final class Promise03KindTest {
    public static void main(String[] args) {
        whetherAnother();
        wrongInputs();
        throwingChangesNothing();
        anotherColourUnparts();
        Check.end();
    }

    private static void whetherAnother() {
        PictureInlays x = new PictureInlays(1, 1, 3);
        Check.due("red alone", true, () -> x.kind(2, 255, 0, 0));
        Check.due("red again", false, () -> x.kind(2, 255, 0, 0));
        Check.due("green alone", true, () -> x.kind(2, 255, 1, 0));
        Check.due("blue alone", true, () -> x.kind(2, 255, 1, 255));
        Check.due("all the same", false, () -> x.kind(2, 255, 1, 255));
        Check.due("another kind is still black", false, () -> x.kind(1, 0, 0, 0));
        Check.due("places are still black", false, () -> x.pixel(0, 0, 0, 0, 0));
        Check.due("back to black", true, () -> x.kind(2, 0, 0, 0));
    }

    private static void wrongInputs() {
        PictureInlays x = new PictureInlays(20, 20, 3);
        for (int k : new int[] {-1, 3, 8, Integer.MIN_VALUE, Integer.MAX_VALUE}) {
            Check.due("kind " + k, Check.INDEX, () -> x.kind(k, 1, 1, 1));
            Check.due("kind and colour " + k, Check.INDEX, () -> x.kind(k, 1, 1, 256));
        }
        for (int wrong : new int[] {-1, 256, Integer.MIN_VALUE, Integer.MAX_VALUE}) {
            Check.due("red " + wrong, Check.ARGUMENT, () -> x.kind(0, wrong, 0, 0));
            Check.due("green " + wrong, Check.ARGUMENT, () -> x.kind(0, 0, wrong, 0));
            Check.due("blue " + wrong, Check.ARGUMENT, () -> x.kind(0, 0, 0, wrong));
        }
    }

    private static void throwingChangesNothing() {
        PictureInlays x = Drawn.parted(1, "01");
        x.nest(5, 5);
        Check.due("blue too large", Check.ARGUMENT, () -> x.kind(0, 7, 7, 256));
        Check.due("no such kind", Check.INDEX, () -> x.kind(8, 7, 7, 7));
        Check.due("still parted", 1, () -> x.pieceOf(1, 0));
        Check.due("still nested", 1, () -> x.at(1, 0));
        Check.due("still black", false, () -> x.kind(0, 0, 0, 0));
    }

    private static void anotherColourUnparts() {
        PictureInlays x = Drawn.parted(1, "01");
        x.nest(5, 5);
        Check.due("the same colour", false, () -> x.kind(1, 255, 255, 255));
        Check.due("still parted", 1, () -> x.pieceOf(1, 0));
        Check.due("still nested", 1, () -> x.at(1, 0));
        Check.due("another colour", true, () -> x.kind(7, 1, 2, 3));
        Check.due("no longer parted", Check.STATE, () -> x.pieceOf(1, 0));
        Check.due("no longer nested", Check.STATE, () -> x.at(1, 0));
    }
}
