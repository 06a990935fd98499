/** Promise 11: whether a place is reached in its piece. */
public final class Promise11ReachedTest {
    public static void main(String[] args) {
        ordinary();
        asLargeAsThePiece();
        oneLarger();
        radiusAtItsEnds();
        placesAtTheirEnds();
        notParted();
        Check.end();
    }

    private static void has(String what, String due, int radius, String... rows) {
        Check.same(what, due, reached(Drawn.parted(1, rows), rows[0].length(), rows.length, radius));
    }

    private static void ordinary() {
        Check.says("REACHED if some place of the tool's middle has all of the tool within the piece and covers it");
        String[] rows = {"000011", "000011", "000000", "222200"};
        has("radius 0", "xxxxxx/xxxxxx/xxxxxx/xxxxxx", 0, rows);
        has("radius 1", "xxxx../xxxx../xxxx../......", 1, rows);
        has("radius 2", "....../....../....../......", 2, rows);
        has("what a tool can't get into", ".xxxxx./xxxxxx./xxxxxx./xxxx.../xxxx.../.xxx...", 1,
                "1000001", "0000000", "0000000", "0000100", "0000000", "1000001");
    }

    private static String reached(PictureInlays x, int width, int height, int radius) {
        StringBuilder text = new StringBuilder();
        for (int row = 0; row < height; row++) {
            text.append(row == 0 ? "" : "/");
            for (int column = 0; column < width; column++) {
                text.append(x.reached(column, row, radius) ? 'x' : '.');
            }
        }
        return text.toString();
    }

    private static void asLargeAsThePiece() {
        Check.says("A TOOL of radius r covers 2 r + 1 places each way");
        has("one place, radius 0", "x", 0, "0");
        has("three by three, radius 1", "xxx./xxx./xxx./....", 1, "0001", "0001", "0001", "1111");
        has("away from the edge", "...../.xxx./.xxx./.xxx./.....", 1, "11111", "10001", "10001", "10001", "11111");
        PictureInlays x = new PictureInlays(19, 19, 1);
        x.part(1);
        for (int end : new int[] {0, 9, 18}) {
            Check.due("nineteen by nineteen, radius 9", true, () -> x.reached(end, 18 - end, 9));
        }
    }

    private static void oneLarger() {
        Check.says("has all of the tool within the piece");
        has("one place, radius 1", ".", 1, "0");
        has("a row too few", ".../...", 1, "000", "000");
        has("a column too few", "../../..", 1, "00", "00", "00");
        has("another piece beside it", ".../.../...", 1, "001", "001", "001");
        has("a corner is another piece's", ".../.../...", 1, "001", "000", "000");
        PictureInlays x = new PictureInlays(20, 20, 1);
        x.part(1);
        for (int end : new int[] {0, 10, 19}) {
            Check.due("twenty by twenty, radius 9", true, () -> x.reached(end, 19 - end, 9));
            Check.due("twenty by twenty, radius 10", false, () -> x.reached(end, 19 - end, 10));
        }
    }

    private static void radiusAtItsEnds() {
        Check.says("IllegalArgumentException: radius is not 0 .. 10");
        PictureInlays x = Drawn.parted(1, "01", "00");
        for (int wrong : new int[] {-1, -2, 11, 12, Integer.MIN_VALUE, Integer.MAX_VALUE}) {
            Check.due("radius " + wrong, Check.ARGUMENT, () -> x.reached(0, 0, wrong));
            Check.due("radius at the last place " + wrong, Check.ARGUMENT, () -> x.reached(1, 1, wrong));
        }
        Check.due("the smallest radius", true, () -> x.reached(1, 1, 0));
        Check.due("the next", false, () -> x.reached(1, 1, 1));
        Check.due("the largest radius", false, () -> x.reached(1, 1, 10));
    }

    private static void placesAtTheirEnds() {
        Check.says("IndexOutOfBoundsException: there is no such place");
        PictureInlays x = Drawn.parted(1, "012", "345");
        for (int row = -1; row <= 2; row++) {
            for (int column = -1; column <= 3; column++) {
                boolean inside = row >= 0 && row < 2 && column >= 0 && column < 3;
                int c = column;
                int r = row;
                String of = "place " + c + ", " + r;
                Check.due(of, inside ? "true" : Check.INDEX, () -> x.reached(c, r, 0));
                Check.due(of + " before radius", inside ? Check.ARGUMENT : Check.INDEX, () -> x.reached(c, r, 11));
                Check.due(of + " before radius", inside ? Check.ARGUMENT : Check.INDEX, () -> x.reached(c, r, -1));
            }
        }
        for (int wrong : new int[] {Integer.MIN_VALUE, Integer.MAX_VALUE}) {
            Check.due("column " + wrong, Check.INDEX, () -> x.reached(wrong, 0, 0));
            Check.due("row " + wrong, Check.INDEX, () -> x.reached(0, wrong, 0));
        }
    }

    private static void notParted() {
        Check.says("IllegalStateException (first); IndexOutOfBoundsException; IllegalArgumentException: radius is not 0 .. 10");
        States.ofAll((what, x) -> {
            Check.due("reached(0, 0, 0), " + what, Check.STATE, () -> x.reached(0, 0, 0));
            Check.due("reached(2, 0, 0), " + what, Check.STATE, () -> x.reached(2, 0, 0));
            Check.due("reached(0, -1, 0), " + what, Check.STATE, () -> x.reached(0, -1, 0));
            Check.due("reached(0, 0, 11), " + what, Check.STATE, () -> x.reached(0, 0, 11));
        }, (what, x) -> {
            Check.due("reached(0, 0, 0), " + what, true, () -> x.reached(0, 0, 0));
            Check.due("reached(0, 0, 1), " + what, false, () -> x.reached(0, 0, 1));
        });
    }
}
