/** Promise 12: the order of laying. */
public final class Promise12OrderTest {
    public static void main(String[] args) {
        offTheEdgeFirst();
        morePlacesFirst();
        lesserNumberFirst();
        allTogether();
        onePieceAlone();
        numbersAtTheirEnds();
        partedAnew();
        notParted();
        Check.end();
    }

    private static void has(String what, String due, String... rows) {
        PictureInlays x = Drawn.picture(rows);
        int count = x.part(1);
        Check.same(what, due, order(x, count));
    }

    private static String order(PictureInlays x, int count) {
        StringBuilder text = new StringBuilder();
        for (int k = 0; k < count; k++) {
            text.append(k == 0 ? "" : " ").append(x.order(k));
        }
        return text.toString();
    }

    private static void offTheEdgeFirst() {
        Check.says("pieces that have no place at the picture's edge, then the others");
        has("the small one inside first", "1 0", "000", "010", "000");
        has("all of them at the edge", "0 1 2", "012", "012");
        has("a place at the edge is enough", "1 0 2", "0000", "0112", "0000");
        has("one inside the other, both off the edge", "1 2 0", "00000", "01110", "01210", "01110", "00000");
    }

    private static void morePlacesFirst() {
        Check.says("of these those with more places first");
        has("at the edge", "2 0 1", "001222");
        has("inside", "2 1 0", "00000", "01220", "00000");
    }

    private static void lesserNumberFirst() {
        Check.says("of as many the lesser number");
        has("at the edge", "0 1 2 3", "30", "21");
        has("inside", "1 2 3 0", "00000", "03210", "00000");
    }

    private static void allTogether() {
        Check.says("THE ORDER");
        // Off the edge: 4 and 9 of two places, 3, 6, 7, 8 of one. At it: 1 of 16, 5 of 12, 10 and 11 of 2, 0 and 2 of 1.
        has("all together", "4 9 3 6 7 8 1 5 10 11 0 2",
                "1000002",
                "0300440",
                "0005000",
                "0700600",
                "0077000",
                "3300011");
    }

    private static void onePieceAlone() {
        Check.says("THE ORDER");
        has("one place", "0", "0");
        PictureInlays x = new PictureInlays(20, 20, 1);
        x.part(400);
        Check.due("all places", 0, () -> x.order(0));
        Check.due("no second one", Check.INDEX, () -> x.order(1));
    }

    private static void numbersAtTheirEnds() {
        Check.says("The k-th piece in THE ORDER");
        PictureInlays x = Drawn.parted(1, "000", "010", "000");
        for (int wrong : new int[] {-1, -2, 2, 3, Integer.MIN_VALUE, Integer.MAX_VALUE}) {
            Check.due("k " + wrong, Check.INDEX, () -> x.order(wrong));
        }
        Check.due("the first", 1, () -> x.order(0));
        Check.due("the last", 0, () -> x.order(1));
    }

    private static void partedAnew() {
        Check.says("and all pieces are made anew");
        PictureInlays x = Drawn.parted(1, "0001", "0201", "0001", "0001");
        Check.same("three pieces", "2 0 1", order(x, 3));
        x.part(2);
        Check.same("two pieces", "0 1", order(x, 2));
        Check.due("no third one", Check.INDEX, () -> x.order(2));
    }

    private static void notParted() {
        Check.says("IllegalStateException (first); IndexOutOfBoundsException");
        States.ofAll((what, x) -> {
            Check.due("order(0), " + what, Check.STATE, () -> x.order(0));
            Check.due("order(-1), " + what, Check.STATE, () -> x.order(-1));
            Check.due("order(2), " + what, Check.STATE, () -> x.order(2));
        }, (what, x) -> Check.due("order(1), " + what, 1, () -> x.order(1)));
    }
}
