/** Promise 16: kinds by brightness. */
public final class Promise16SortedTest {
    public static void main(String[] args) {
        PictureInlays x = new PictureInlays(1, 1, 5);
        same(x, "all alike", "01234");
        x.kind(4, 0, 0, 1);
        same(x, "a little blue", "40123");
        x.kind(3, 1, 0, 0);
        same(x, "red counts twice", "34012");
        x.kind(2, 0, 1, 0);
        same(x, "green five times", "23401");
        x.kind(1, 2, 0, 1);
        same(x, "as bright: the lesser first", "12340");
        x.kind(0, 1, 0, 3);
        same(x, "as bright: all three", "01234");
        x.kind(0, 255, 255, 255);
        x.kind(4, 255, 255, 255);
        same(x, "the brightest", "04123");
        for (int wrong : new int[] {-1, 5, 8, Integer.MIN_VALUE, Integer.MAX_VALUE}) {
            Check.due("k " + wrong, Check.INDEX, () -> x.sorted(wrong));
        }
        Check.end();
    }

    private static void same(PictureInlays x, String what, String due) {
        StringBuilder text = new StringBuilder();
        for (int k = 0; k < 5; k++) {
            text.append(x.sorted(k));
        }
        Check.same(what, due, text);
    }
}
