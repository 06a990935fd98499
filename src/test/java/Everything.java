/** All that can be asked of an object without changing it. */
final class Everything {
    private Everything() {
    }

    /** Colours can only be asked by telling them again, so those that are due are handed in. */
    static String of(PictureInlays x, int[][][] picture, int[][] woods) {
        StringBuilder text = new StringBuilder();
        for (int row = 0; row < picture.length; row++) {
            for (int column = 0; column < picture[row].length; column++) {
                int c = column;
                int r = row;
                int[] p = picture[row][column];
                note(text, Check.answer(() -> x.pieceOf(c, r)));
                note(text, Check.answer(() -> x.reached(c, r, 1)));
                note(text, Check.answer(() -> x.pixel(c, r, p[0], p[1], p[2])));
            }
        }
        for (int kind = 0; kind < woods.length; kind++) {
            int k = kind;
            int[] w = woods[kind];
            note(text, Check.answer(() -> x.sorted(k)));
            note(text, Check.answer(() -> x.kind(k, w[0], w[1], w[2])));
        }
        int pieces = 3;
        for (int piece = 0; piece < pieces; piece++) {
            ofPiece(text, x, piece, pieces);
        }
        return text.toString();
    }

    private static void ofPiece(StringBuilder text, PictureInlays x, int piece, int pieces) {
        for (int what = 0; what < 7; what++) {
            int w = what;
            note(text, Check.answer(() -> x.piece(piece, w)));
        }
        for (int other = 0; other < pieces; other++) {
            int o = other;
            note(text, Check.answer(() -> x.joined(piece, o)));
        }
        note(text, Check.answer(() -> Drawn.corners(x, piece)));
        note(text, Check.answer(() -> x.left(piece, 0)));
        note(text, Check.answer(() -> x.left(piece, 1)));
        note(text, Check.answer(() -> x.order(piece)));
        note(text, Check.answer(() -> x.at(piece, 0)));
        note(text, Check.answer(() -> x.at(piece, 1)));
    }

    private static void note(StringBuilder text, String answer) {
        text.append(answer.replace("throws.", "").replace("Exception", "")).append(' ');
    }
}
