/** Pictures written as rows of digits, each digit a kind. */
final class Drawn {
    /** Colours that are far apart, so that a place gets the kind of its own digit. */
    static final int[][] WOODS = {
        {0, 0, 0}, {255, 255, 255}, {255, 0, 0}, {0, 255, 0}, {0, 0, 255}, {255, 255, 0}, {255, 0, 255}, {0, 255, 255}};

    private Drawn() {
    }

    static PictureInlays picture(String... rows) {
        PictureInlays x = new PictureInlays(rows[0].length(), rows.length, WOODS.length);
        for (int k = 0; k < WOODS.length; k++) {
            x.kind(k, WOODS[k][0], WOODS[k][1], WOODS[k][2]);
        }
        for (int row = 0; row < rows.length; row++) {
            for (int column = 0; column < rows[row].length(); column++) {
                paint(x, column, row, rows[row].charAt(column) - '0');
            }
        }
        return x;
    }

    static boolean paint(PictureInlays x, int column, int row, int k) {
        return x.pixel(column, row, WOODS[k][0], WOODS[k][1], WOODS[k][2]);
    }

    static PictureInlays parted(int least, String... rows) {
        PictureInlays x = picture(rows);
        x.part(least);
        return x;
    }

    /** The numbers of the pieces, place by place, rows parted by '/'. */
    static String numbers(PictureInlays x, int width, int height) {
        StringBuilder text = new StringBuilder();
        for (int row = 0; row < height; row++) {
            text.append(row == 0 ? "" : "/");
            for (int column = 0; column < width; column++) {
                text.append(x.pieceOf(column, row));
            }
        }
        return text.toString();
    }

    /** The kinds of the places' pieces, rows parted by '/'. */
    static String woods(PictureInlays x, int width, int height) {
        StringBuilder text = new StringBuilder();
        for (int row = 0; row < height; row++) {
            text.append(row == 0 ? "" : "/");
            for (int column = 0; column < width; column++) {
                text.append(x.piece(x.pieceOf(column, row), 0));
            }
        }
        return text.toString();
    }

    static String corners(PictureInlays x, int piece) {
        StringBuilder text = new StringBuilder();
        int count = x.outline(piece);
        for (int k = 0; k < count; k++) {
            text.append(k == 0 ? "" : " ").append(x.corner(piece, k, 0)).append(',').append(x.corner(piece, k, 1));
        }
        return text.toString();
    }
}
