/** Promise 16: kinds by brightness. */
public final class Promise16SortedTest {
    public static void main(String[] args) {
        byBrightness();
        alike();
        largestBrightness();
        kindsAtTheirEnds();
        needsNoPart();
        Check.end();
    }

    private static void same(PictureInlays x, int kinds, String what, String due) {
        StringBuilder text = new StringBuilder();
        for (int k = 0; k < kinds; k++) {
            text.append(x.sorted(k));
        }
        Check.same(what, due, text);
    }

    private static void byBrightness() {
        Check.says("The k-th kind by brightness: 2 * r + 5 * g + b, the brightest first");
        PictureInlays x = new PictureInlays(1, 1, 5);
        x.kind(4, 0, 0, 1);
        same(x, 5, "a little blue", "40123");
        x.kind(3, 1, 0, 0);
        same(x, 5, "red counts twice", "34012");
        x.kind(2, 0, 1, 0);
        same(x, 5, "green five times", "23401");
        PictureInlays y = new PictureInlays(1, 1, 8);
        for (int kind = 0; kind < 8; kind++) {
            y.kind(kind, 0, 0, 10 * kind);
        }
        same(y, 8, "all the other way round", "76543210");
        y.kind(0, 0, 0, 71);
        same(y, 8, "the last comes first", "07654321");
        y.kind(0, 0, 0, 9);
        same(y, 8, "and last again", "76543210");
    }

    private static void alike() {
        Check.says("the brightest first (of several the least)");
        PictureInlays x = new PictureInlays(1, 1, 5);
        same(x, 5, "all black", "01234");
        x.kind(4, 0, 0, 5);
        x.kind(3, 0, 1, 0);
        same(x, 5, "five of blue, one of green", "34012");
        x.kind(1, 2, 0, 1);
        same(x, 5, "two of red and one of blue", "13402");
        x.kind(0, 1, 0, 3);
        same(x, 5, "one of red and three of blue", "01342");
        x.kind(2, 0, 0, 6);
        same(x, 5, "one that is brighter by one", "20134");
        x.kind(2, 0, 0, 4);
        same(x, 5, "one that is darker by one", "01342");
        x.kind(2, 0, 0, 5);
        same(x, 5, "all alike, by other colours", "01234");
    }

    private static void largestBrightness() {
        Check.says("2 * r + 5 * g + b, the brightest first");
        PictureInlays x = new PictureInlays(1, 1, 4);
        x.kind(1, 255, 255, 254);
        x.kind(2, 255, 255, 255);
        x.kind(3, 255, 255, 255);
        same(x, 4, "white before nearly white", "2310");
        x.kind(0, 255, 254, 255);
        same(x, 4, "less green is darker than less blue", "2310");
        x.kind(1, 254, 255, 255);
        x.kind(3, 255, 255, 254);
        same(x, 4, "red between them", "2310");
    }

    private static void kindsAtTheirEnds() {
        Check.says("IndexOutOfBoundsException: there is no such place, kind, piece, corner");
        for (int kinds = 1; kinds <= 8; kinds++) {
            PictureInlays x = new PictureInlays(20, 20, kinds);
            for (int kind = -2; kind <= 9; kind++) {
                int k = kind;
                Object due = k >= 0 && k < kinds ? k : Check.INDEX;
                Check.due("k " + k + " of " + kinds, due, () -> x.sorted(k));
            }
            Check.due("far below", Check.INDEX, () -> x.sorted(Integer.MIN_VALUE));
            Check.due("far above", Check.INDEX, () -> x.sorted(Integer.MAX_VALUE));
        }
    }

    private static void needsNoPart() {
        Check.says("int sorted(int k) throws IndexOutOfBoundsException");
        States.ofAll((what, x) -> {
            Check.due("sorted(0), " + what, 1, () -> x.sorted(0));
            Check.due("sorted(8), " + what, Check.INDEX, () -> x.sorted(8));
        }, (what, x) -> {
            Check.due("sorted(0), " + what, 1, () -> x.sorted(0));
            Check.due("sorted(-1), " + what, Check.INDEX, () -> x.sorted(-1));
        });
    }
}
