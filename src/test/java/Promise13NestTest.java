/** Promise 13: how many pieces are placed on a sheet. */
public final class Promise13NestTest {
    public static void main(String[] args) {
        ordinary();
        nothingFits();
        justFull();
        rowJustFull();
        leftOutButNotTheNext();
        sheetAtItsEnds();
        throwingChangesNothing();
        notParted();
        Check.end();
    }

    private static void ordinary() {
        Check.says("NESTED: how many pieces are placed");
        PictureInlays x = Drawn.parted(1, "0011123", "0011123");
        // Rectangles: 0 is 2 by 2, 1 is 3 by 2, 2 and 3 are 1 by 2.
        Check.due("all in one row", 4, () -> x.nest(7, 2));
        Check.due("one column too few", 3, () -> x.nest(6, 2));
        Check.due("two rows", 4, () -> x.nest(6, 4));
        Check.due("a row too low", 3, () -> x.nest(6, 3));
        Check.due("the widest one left out", 3, () -> x.nest(2, 4));
        Check.due("only the narrow ones", 2, () -> x.nest(1, 100));
        Check.due("only one of them", 1, () -> x.nest(1, 3));
    }

    private static void nothingFits() {
        Check.says("one that does not fit so is left out");
        PictureInlays x = Drawn.parted(1, "0011", "0011");
        Check.due("a row too low", 0, () -> x.nest(100, 1));
        Check.due("a column too narrow", 0, () -> x.nest(1, 100));
        Check.due("the smallest sheet", 0, () -> x.nest(1, 1));
        Check.due("just one", 1, () -> x.nest(2, 2));
        PictureInlays large = new PictureInlays(20, 20, 1);
        large.part(1);
        Check.due("as large as the sheet", 1, () -> large.nest(20, 20));
        Check.due("a column wider than the sheet", 0, () -> large.nest(19, 20));
        Check.due("a row higher than the sheet", 0, () -> large.nest(20, 19));
        Check.due("on a sheet that is larger by far", 1, () -> large.nest(100, 100));
        PictureInlays single = Drawn.parted(1, "0");
        Check.due("one place on the smallest sheet", 1, () -> single.nest(1, 1));
    }

    private static void justFull() {
        Check.says("else in a new row below, as high as it is; one that does not fit so is left out");
        PictureInlays x = Drawn.parted(1, "0011", "0011", "2233", "2233");
        Check.due("four on a sheet that is just full", 4, () -> x.nest(4, 4));
        Check.due("a column fewer", 2, () -> x.nest(3, 4));
        Check.due("a row fewer", 2, () -> x.nest(4, 3));
        Check.due("all in a row", 4, () -> x.nest(8, 2));
        Check.due("all in a row but one", 3, () -> x.nest(7, 2));
        Check.due("all below one another", 4, () -> x.nest(2, 8));
        Check.due("all below one another but one", 3, () -> x.nest(2, 7));
        PictureInlays places = Drawn.parted(1, "01234567");
        Check.due("eight places on eight", 8, () -> places.nest(4, 2));
        Check.due("eight places on seven", 7, () -> places.nest(7, 1));
        Check.due("eight places on six", 6, () -> places.nest(2, 3));
        PictureInlays high = Drawn.parted(1, "012", "012", "014", "333");
        // Rectangles: 0 and 1 are 1 by 3, 2 is 1 by 2, 3 is 1 by 1, 4 is 3 by 1.
        Check.due("rows of three and one, just full", 5, () -> high.nest(4, 4));
        Check.due("three rows, just full", 5, () -> high.nest(3, 5));
        Check.due("a row fewer", 4, () -> high.nest(3, 4));
    }

    private static void rowJustFull() {
        Check.says("each in the first row that has room for it (across, and no higher than the row)");
        PictureInlays x = Drawn.parted(1, "0012", "0012");
        Check.due("a row that is just full", 3, () -> x.nest(4, 2));
        Check.due("the next one in a new row", 3, () -> x.nest(3, 4));
        Check.due("no room for a new row", 2, () -> x.nest(3, 3));
        PictureInlays lower = Drawn.parted(1, "0012", "0034");
        Check.due("lower ones fill the row", 5, () -> lower.nest(6, 2));
        Check.due("one of them has no room", 4, () -> lower.nest(5, 2));
        Check.due("it has room in a new row", 5, () -> lower.nest(5, 3));
    }

    private static void leftOutButNotTheNext() {
        Check.says("one that does not fit so is left out");
        PictureInlays x = Drawn.parted(1, "000001", "222222");
        Check.due("wide ones left out, the narrow one placed", 1, () -> x.nest(4, 9));
        Check.due("one of the wide ones, too", 2, () -> x.nest(5, 2));
        PictureInlays high = Drawn.parted(1, "01", "02", "03");
        Check.due("the high one alone", 1, () -> high.nest(1, 3));
        Check.due("the high one left out, two low ones placed", 2, () -> high.nest(1, 2));
    }

    private static void sheetAtItsEnds() {
        Check.says("IllegalArgumentException: w or h is not 1 .. 100");
        PictureInlays x = Drawn.parted(1, "01", "00");
        for (int wrong : new int[] {0, -1, 101, 102, Integer.MIN_VALUE, Integer.MAX_VALUE}) {
            Check.due("w " + wrong, Check.ARGUMENT, () -> x.nest(wrong, 1));
            Check.due("h " + wrong, Check.ARGUMENT, () -> x.nest(1, wrong));
            Check.due("w and h " + wrong, Check.ARGUMENT, () -> x.nest(wrong, wrong));
        }
        Check.due("the smallest sheet", 1, () -> x.nest(1, 1));
        Check.due("the widest sheet", 1, () -> x.nest(100, 1));
        Check.due("the highest sheet", 1, () -> x.nest(1, 100));
        Check.due("the largest sheet", 2, () -> x.nest(100, 100));
        PictureInlays rows = new PictureInlays(20, 20, 2);
        rows.kind(1, 255, 255, 255);
        for (int row = 1; row < 20; row += 2) {
            for (int column = 0; column < 20; column++) {
                rows.pixel(column, row, 255, 255, 255);
            }
        }
        rows.part(1);
        Check.due("five in each row, four rows: just full", 20, () -> rows.nest(100, 4));
        Check.due("four in each row", 16, () -> rows.nest(99, 4));
        Check.due("three rows", 15, () -> rows.nest(100, 3));
    }

    private static void throwingChangesNothing() {
        Check.says("A call that throws changes nothing");
        PictureInlays x = Drawn.parted(1, "01", "00");
        Check.due("a wrong sheet", Check.ARGUMENT, () -> x.nest(0, 5));
        Check.due("is no sheet", Check.STATE, () -> x.at(0, 0));
        x.nest(9, 9);
        Check.due("w too small", Check.ARGUMENT, () -> x.nest(0, 1));
        Check.due("h too large", Check.ARGUMENT, () -> x.nest(1, 101));
        Check.due("the latest sheet still stands", 2, () -> x.at(1, 0));
    }

    private static void notParted() {
        Check.says("IllegalStateException (first); IllegalArgumentException: w or h is not 1 .. 100");
        States.ofAll((what, x) -> {
            Check.due("nest(9, 9), " + what, Check.STATE, () -> x.nest(9, 9));
            Check.due("nest(0, 9), " + what, Check.STATE, () -> x.nest(0, 9));
            Check.due("nest(9, 101), " + what, Check.STATE, () -> x.nest(9, 101));
        }, (what, x) -> Check.due("nest(9, 9), " + what, 2, () -> x.nest(9, 9)));
    }
}
