/** Promise 11: whether a place is reached in its piece. */
public final class Promise11ReachedTest {
    public static void main(String[] args) {
        PictureInlays x = Drawn.parted(1,
                "000011",
                "000011",
                "000000",
                "222200");
        Check.same("radius 0", "xxxxxx/xxxxxx/xxxxxx/xxxxxx", reached(x, 6, 4, 0));
        Check.same("radius 1", "xxxx../xxxx../xxxx../......", reached(x, 6, 4, 1));
        Check.same("radius 2", "....../....../....../......", reached(x, 6, 4, 2));
        PictureInlays round = Drawn.parted(1,
                "1000001",
                "0000000",
                "0000000",
                "0000100",
                "0000000",
                "1000001");
        Check.same("what a tool can't get into", ".xxxxx./xxxxxx./xxxxxx./xxxx.../xxxx.../.xxx...",
                reached(round, 7, 6, 1));
        wrongInputs(x);
        Check.end();
    }

    private static String reached(PictureInlays x, int width, int height, int radius) {
        StringBuilder text = new StringBuilder();
        for (int row = 0; row < height; row++) {
            text.append(row == 0 ? "" : "/");
            for (int column = 0; column < width; column++) {
                text.append(x.reached(column, row, radius) ? 'x' : '.');
            }
        }
        return text.toString();
    }

    private static void wrongInputs(PictureInlays x) {
        for (int wrong : new int[] {-1, 11, Integer.MIN_VALUE, Integer.MAX_VALUE}) {
            Check.due("radius " + wrong, Check.ARGUMENT, () -> x.reached(0, 0, wrong));
        }
        Check.due("the largest radius", false, () -> x.reached(5, 3, 10));
        int[][] noPlaces = {{-1, 0}, {6, 0}, {0, -1}, {0, 4}, {Integer.MIN_VALUE, 0}, {0, Integer.MAX_VALUE}};
        for (int[] p : noPlaces) {
            Check.due("place " + p[0] + ", " + p[1], Check.INDEX, () -> x.reached(p[0], p[1], 0));
            Check.due("place first " + p[0] + ", " + p[1], Check.INDEX, () -> x.reached(p[0], p[1], 11));
        }
        Drawn.paint(x, 0, 0, 5);
        Check.due("not parted", Check.STATE, () -> x.reached(0, 0, 0));
        Check.due("not parted is told first", Check.STATE, () -> x.reached(-1, -1, -1));
    }
}
