/** Promise 12: the order of laying. */
public final class Promise12OrderTest {
    public static void main(String[] args) {
        PictureInlays x = Drawn.parted(1,
                "1000002",
                "0300440",
                "0005000",
                "0700600",
                "0077000",
                "3300011");
        // Off the edge: 4 and 9 of two places, 3, 6, 7, 8 of one. At it: 1 of 16, 5 of 12, 10 and 11 of 2, 0 and 2 of 1.
        StringBuilder order = new StringBuilder();
        int count = x.part(1);
        for (int k = 0; k < count; k++) {
            order.append(x.order(k)).append(' ');
        }
        Check.same("the order", "4 9 3 6 7 8 1 5 10 11 0 2 ", order);
        Check.same("how many", 12, count);
        for (int wrong : new int[] {-1, count, Integer.MIN_VALUE, Integer.MAX_VALUE}) {
            Check.due("k " + wrong, Check.INDEX, () -> x.order(wrong));
        }
        x.part(2);
        Check.due("another order when parted anew", Check.INDEX, () -> x.order(10));
        Drawn.paint(x, 0, 0, 5);
        Check.due("not parted", Check.STATE, () -> x.order(0));
        Check.due("not parted is told first", Check.STATE, () -> x.order(-1));
        Check.end();
    }
}
