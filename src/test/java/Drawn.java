/** Pictures written as rows of digits, each digit a kind. */
final class Drawn {
    /** Colours that are far apart, so that a place gets the kind of its own digit. */
    static final int[][] WOODS = {
        {0, 0, 0}, {255, 255, 255}, {255, 0, 0}, {0, 255, 0}, {0, 0, 255}, {255, 255, 0}, {255, 0, 255}, {0, 255, 255}};

    private Drawn() {
    }

    static PictureInlays picture(String... rows) {
        PictureInlays x = new PictureInlays(rows[0].length(), rows.length, WOODS.length);
        for (int k = 0; k < WOODS.length; k++) {
            x.kind(k, WOODS[k][0], WOODS[k][1], WOODS[k][2]);
        }
        for (int row = 0; row < rows.length; row++) {
            for (int column = 0; column < rows[row].length(); column++) {
                paint(x, column, row, rows[row].charAt(column) - '0');
            }
        }
        return x;
    }

    static boolean paint(PictureInlays x, int column, int row, int k) {
        return x.pixel(column, row, WOODS[k][0], WOODS[k][1], WOODS[k][2]);
    }

    /** Twenty by twenty: stairs of kind 0 that hang on the upper row and the right column, with kind 1 between them. */
    static String[] stairs() {
        String[] rows = new String[20];
        for (int row = 0; row < 20; row++) {
            StringBuilder text = new StringBuilder();
            for (int column = 0; column < 20; column++) {
                text.append(row == 0 || column == 19 || (row + column) % 4 < 2 ? '0' : '1');
            }
            rows[row] = text.toString();
        }
        return rows;
    }

    /** Turns at all crossings of sides: an odd number of the four places round it makes one, two across make two. */
    static int turns(String[] rows, char wood) {
        int sum = 0;
        for (int y = 0; y <= rows.length; y++) {
            for (int x = 0; x <= rows[0].length(); x++) {
                int a = is(rows, x - 1, y - 1, wood);
                int b = is(rows, x, y - 1, wood);
                int c = is(rows, x - 1, y, wood);
                int d = is(rows, x, y, wood);
                boolean across = a == d && b == c && a != b;
                sum += across ? 2 : (a + b + c + d) % 2;
            }
        }
        return sum;
    }

    private static int is(String[] rows, int x, int y, char wood) {
        boolean inside = y >= 0 && y < rows.length && x >= 0 && x < rows[0].length();
        return inside && rows[y].charAt(x) == wood ? 1 : 0;
    }

    static PictureInlays parted(int least, String... rows) {
        PictureInlays x = picture(rows);
        x.part(least);
        return x;
    }

    /** The numbers of the pieces, place by place, rows parted by '/'. */
    static String numbers(PictureInlays x, int width, int height) {
        StringBuilder text = new StringBuilder();
        for (int row = 0; row < height; row++) {
            text.append(row == 0 ? "" : "/");
            for (int column = 0; column < width; column++) {
                text.append(x.pieceOf(column, row));
            }
        }
        return text.toString();
    }

    /** The kinds of the places' pieces, rows parted by '/'. */
    static String woods(PictureInlays x, int width, int height) {
        StringBuilder text = new StringBuilder();
        for (int row = 0; row < height; row++) {
            text.append(row == 0 ? "" : "/");
            for (int column = 0; column < width; column++) {
                text.append(x.piece(x.pieceOf(column, row), 0));
            }
        }
        return text.toString();
    }

    static String corners(PictureInlays x, int piece) {
        StringBuilder text = new StringBuilder();
        int count = x.outline(piece);
        for (int k = 0; k < count; k++) {
            text.append(k == 0 ? "" : " ").append(x.corner(piece, k, 0)).append(',').append(x.corner(piece, k, 1));
        }
        return text.toString();
    }
}
