import java.util.Arrays;

/**
 * Pictures in wood: a picture is parted into pieces of one kind of wood each; their outlines, what a tool
 * can't reach of them, the order of laying, their places on a sheet, and borders of repeated parts.
 */
public final class PictureInlays {
    public static final int NONE = -1;

    private static final int MOST_SIDE = 20;
    private static final int MOST_KINDS = 8;
    private static final int MOST_COLOUR = 255;
    private static final int MOST_LEAST = 400;
    private static final int MOST_RADIUS = 10;
    private static final int MOST_SHEET = 100;
    private static final int MOST_LENGTH = 1000000;
    private static final int AXES = 2;
    private static final int BORDER_PARTS = 3;

    private static final int WOOD = 0;
    private static final int SIZE = 1;
    private static final int LEAST_X = 2;
    private static final int LEAST_Y = 3;
    private static final int COLUMNS = 4;
    private static final int ROWS = 5;
    private static final int AT_EDGE = 6;

    private static final int WAYS = 4;
    // Right, down, left, up: each way's follower is a turn to the right.
    private static final int[] STEP_X = {1, 0, -1, 0};
    private static final int[] STEP_Y = {0, 1, 0, -1};
    // The place ahead and to the right of a crossing of sides, for each way.
    private static final int[] AHEAD_X = {0, -1, -1, 0};
    private static final int[] AHEAD_Y = {0, 0, -1, -1};

    private final Grid grid;
    private final int kinds;
    private final Colours picture;
    private final Colours woods;
    private final Pieces pieces;
    private final Ranking brightest;
    private final Ranking laying;
    private final Walk walk;
    private final Tool tool;
    private final Sheet sheet;
    private boolean parted;
    private boolean nested;

    public PictureInlays(int width, int height, int kinds) {
        this.grid = new Grid(nearest(width, MOST_SIDE), nearest(height, MOST_SIDE));
        this.kinds = nearest(kinds, MOST_KINDS);
        this.picture = new Colours(grid.places);
        this.woods = new Colours(this.kinds);
        this.pieces = new Pieces(grid);
        this.brightest = new Brightest(woods, this.kinds);
        this.laying = new Laying(pieces, grid.places);
        this.walk = new Walk(grid, pieces);
        this.tool = new Tool(grid, pieces);
        this.sheet = new Sheet(pieces, grid.places);
        this.parted = false;
        this.nested = false;
    }

    public boolean pixel(int x, int y, int r, int g, int b) throws IndexOutOfBoundsException, IllegalArgumentException {
        needPlace(x, y);
        needColour(r, g, b);
        return told(picture.tell(grid.placeOf(x, y), r, g, b));
    }

    public boolean kind(int k, int r, int g, int b) throws IndexOutOfBoundsException, IllegalArgumentException {
        needIndex(k, kinds);
        needColour(r, g, b);
        return told(woods.tell(k, r, g, b));
    }

    public int part(int least) throws IllegalArgumentException {
        needNumber(least, 1, MOST_LEAST);
        pieces.make(picture, woods, kinds, least);
        laying.rank(pieces.count);
        parted = true;
        nested = false;
        return pieces.count;
    }

    public int pieceOf(int x, int y) throws IllegalStateException, IndexOutOfBoundsException {
        needParted();
        needPlace(x, y);
        return pieces.numberOf(x, y);
    }

    public int piece(int piece, int what)
            throws IllegalStateException, IndexOutOfBoundsException, IllegalArgumentException {
        needPiece(piece);
        needNumber(what, WOOD, AT_EDGE);
        switch (what) {
            case WOOD:
                return pieces.woodOf(piece);
            case SIZE:
                return pieces.sizeOf(piece);
            case LEAST_X:
                return pieces.leastXOf(piece);
            case LEAST_Y:
                return pieces.leastYOf(piece);
            case COLUMNS:
                return pieces.columnsOf(piece);
            case ROWS:
                return pieces.rowsOf(piece);
            default:
                return pieces.isAtEdge(piece) ? 1 : 0;
        }
    }

    public int joined(int a, int b) throws IllegalStateException, IndexOutOfBoundsException {
        needPiece(a);
        needPiece(b);
        return pieces.sidesBetween(a, b);
    }

    public int outline(int piece) throws IllegalStateException, IndexOutOfBoundsException {
        needPiece(piece);
        walk.round(piece);
        return walk.corners;
    }

    public int corner(int piece, int k, int axis) throws IllegalStateException, IndexOutOfBoundsException {
        needPiece(piece);
        needIndex(axis, AXES);
        walk.round(piece);
        needIndex(k, walk.corners);
        return axis == 0 ? walk.cornerX(k) : walk.cornerY(k);
    }

    public int left(int piece, int radius)
            throws IllegalStateException, IndexOutOfBoundsException, IllegalArgumentException {
        needPiece(piece);
        needNumber(radius, 0, MOST_RADIUS);
        tool.cover(piece, radius);
        return pieces.sizeOf(piece) - tool.covered;
    }

    public boolean reached(int x, int y, int radius)
            throws IllegalStateException, IndexOutOfBoundsException, IllegalArgumentException {
        needParted();
        needPlace(x, y);
        needNumber(radius, 0, MOST_RADIUS);
        tool.cover(pieces.numberOf(x, y), radius);
        return tool.covers(x, y);
    }

    public int order(int k) throws IllegalStateException, IndexOutOfBoundsException {
        needPiece(k);
        return laying.ranked(k);
    }

    public int nest(int w, int h) throws IllegalStateException, IllegalArgumentException {
        needParted();
        needNumber(w, 1, MOST_SHEET);
        needNumber(h, 1, MOST_SHEET);
        nested = true;
        return sheet.fill(w, h);
    }

    public int at(int piece, int axis) throws IllegalStateException, IndexOutOfBoundsException {
        needNested();
        needPiece(piece);
        needIndex(axis, AXES);
        return axis == 0 ? sheet.xOf(piece) : sheet.yOf(piece);
    }

    public int border(int length, int repeat, int part) throws IndexOutOfBoundsException, IllegalArgumentException {
        needIndex(part, BORDER_PARTS);
        needNumber(length, 1, MOST_LENGTH);
        needNumber(repeat, 1, MOST_LENGTH);
        int repeats = repeat > 0 ? length / repeat : 0;
        if (part == 0) {
            return repeats;
        }
        int rest = repeats > 0 ? length - repeats * repeat : 0;
        int shares = Math.max(repeats, 1);
        int divisor = commonDivisor(shares, rest);
        int told = part == 1 ? rest : shares;
        return divisor > 0 ? told / divisor : told;
    }

    public int sorted(int k) throws IndexOutOfBoundsException {
        needIndex(k, kinds);
        brightest.rank(kinds);
        return brightest.ranked(k);
    }

    private static int nearest(int number, int most) {
        return Math.max(1, Math.min(number, most));
    }

    private static int commonDivisor(int a, int b) {
        int divisor = a;
        int rest = b;
        for (int step = 0; step < MOST_LENGTH && rest != 0; step++) {
            int next = divisor % rest;
            divisor = rest;
            rest = next;
        }
        return divisor;
    }

    /** Another colour makes all that was parted and nested void. */
    private boolean told(boolean another) {
        if (another) {
            parted = false;
            nested = false;
        }
        return another;
    }

    private void needParted() {
        if (!parted) {
            throw new IllegalStateException("not parted since another colour was told");
        }
    }

    private void needNested() {
        if (!nested) {
            throw new IllegalStateException("nothing was nested since it was parted");
        }
    }

    private void needPiece(int piece) {
        needParted();
        needIndex(piece, pieces.count);
    }

    private void needPlace(int x, int y) {
        needIndex(x, grid.width);
        needIndex(y, grid.height);
    }

    private static void needColour(int r, int g, int b) {
        needNumber(r, 0, MOST_COLOUR);
        needNumber(g, 0, MOST_COLOUR);
        needNumber(b, 0, MOST_COLOUR);
    }

    private static void needIndex(int index, int count) {
        if (index < 0 || index >= count) {
            throw new IndexOutOfBoundsException("there is no such one");
        }
    }

    private static void needNumber(int number, int least, int most) {
        if (number < least || number > most) {
            throw new IllegalArgumentException("a number is not as said");
        }
    }

    /** The places, numbered row by row, and which lie beside which. */
    private static final class Grid {
        final int width;
        final int height;
        final int places;
        private final int[] column;
        private final int[] row;
        private final int[] beside;

        Grid(int width, int height) {
            this.width = width;
            this.height = height;
            this.places = width * height;
            this.column = new int[places];
            this.row = new int[places];
            this.beside = new int[places * WAYS];
            for (int y = 0; y < height; y++) {
                for (int x = 0; x < width; x++) {
                    int place = y * width + x;
                    column[place] = x;
                    row[place] = y;
                    for (int way = 0; way < WAYS; way++) {
                        beside[place * WAYS + way] = placeOf(x + STEP_X[way], y + STEP_Y[way]);
                    }
                }
            }
        }

        int placeOf(int x, int y) {
            boolean inside = x >= 0 && x < width && y >= 0 && y < height;
            return inside ? y * width + x : NONE;
        }

        int columnOf(int place) {
            return column[place];
        }

        int rowOf(int place) {
            return row[place];
        }

        int besideOf(int place, int way) {
            return beside[place * WAYS + way];
        }
    }

    /** A row of colours, black at first. */
    private static final class Colours {
        private final int[] red;
        private final int[] green;
        private final int[] blue;

        Colours(int count) {
            this.red = new int[count];
            this.green = new int[count];
            this.blue = new int[count];
        }

        boolean tell(int i, int r, int g, int b) {
            if (i < 0 || i >= red.length || (red[i] == r && green[i] == g && blue[i] == b)) {
                return false;
            }
            red[i] = r;
            green[i] = g;
            blue[i] = b;
            return true;
        }

        int distance(int i, Colours others, int j) {
            return Math.abs(red[i] - others.red[j])
                    + Math.abs(green[i] - others.green[j])
                    + Math.abs(blue[i] - others.blue[j]);
        }

        int brightness(int i) {
            return 2 * red[i] + 5 * green[i] + blue[i];
        }
    }

    /** The places' kinds of wood and the pieces, numbered by their first places. */
    private static final class Pieces {
        private final Grid grid;
        private final int[] woodAt;
        private final int[] numberAt;
        private final int[] waiting;
        private final int[] sides;
        private final int[] first;
        private final int[] size;
        private final int[] leastX;
        private final int[] mostX;
        private final int[] mostY;
        int count;

        Pieces(Grid grid) {
            this.grid = grid;
            this.woodAt = new int[grid.places];
            this.numberAt = new int[grid.places];
            this.waiting = new int[grid.places];
            this.sides = new int[grid.places];
            this.first = new int[grid.places];
            this.size = new int[grid.places];
            this.leastX = new int[grid.places];
            this.mostX = new int[grid.places];
            this.mostY = new int[grid.places];
            this.count = 0;
        }

        void make(Colours picture, Colours woods, int kinds, int least) {
            for (int place = 0; place < grid.places; place++) {
                woodAt[place] = nearestWood(picture, place, woods, kinds);
            }
            gatherAll();
            // Each joining makes at least one piece fewer, so there are fewer joinings than places.
            for (int round = 0; round < grid.places && joinSmallest(least); round++) {
                gatherAll();
            }
        }

        private static int nearestWood(Colours picture, int place, Colours woods, int kinds) {
            int best = 0;
            int bestDistance = picture.distance(place, woods, 0);
            for (int k = 1; k < kinds; k++) {
                int distance = picture.distance(place, woods, k);
                if (distance < bestDistance) {
                    best = k;
                    bestDistance = distance;
                }
            }
            return best;
        }

        private void gatherAll() {
            Arrays.fill(numberAt, NONE);
            count = 0;
            for (int place = 0; place < grid.places; place++) {
                if (numberAt[place] == NONE) {
                    gather(place, count);
                    count++;
                }
            }
        }

        private void gather(int start, int piece) {
            begin(start, piece);
            numberAt[start] = piece;
            waiting[0] = start;
            int known = 1;
            for (int seen = 0; seen < known && seen < grid.places; seen++) {
                int place = waiting[seen];
                include(place, piece);
                for (int way = 0; way < WAYS; way++) {
                    int next = grid.besideOf(place, way);
                    if (next != NONE && numberAt[next] == NONE && woodAt[next] == woodAt[start]
                            && known < grid.places) {
                        numberAt[next] = piece;
                        waiting[known] = next;
                        known++;
                    }
                }
            }
        }

        private void begin(int start, int piece) {
            first[piece] = start;
            size[piece] = 0;
            leastX[piece] = grid.columnOf(start);
            mostX[piece] = grid.columnOf(start);
            mostY[piece] = grid.rowOf(start);
        }

        private void include(int place, int piece) {
            size[piece]++;
            leastX[piece] = Math.min(leastX[piece], grid.columnOf(place));
            mostX[piece] = Math.max(mostX[piece], grid.columnOf(place));
            mostY[piece] = Math.max(mostY[piece], grid.rowOf(place));
        }

        /** Gives the smallest piece its neighbour's wood; whether there was one that is too small. */
        private boolean joinSmallest(int least) {
            int small = smallest();
            if (count < 2 || size[small] >= least) {
                return false;
            }
            int wood = woodOf(closestTo(small));
            for (int place = 0; place < grid.places; place++) {
                if (numberAt[place] == small) {
                    woodAt[place] = wood;
                }
            }
            return true;
        }

        private int smallest() {
            int best = 0;
            for (int piece = 1; piece < count; piece++) {
                if (size[piece] < size[best]) {
                    best = piece;
                }
            }
            return best;
        }

        /** The piece that has most sides in common with this one. */
        private int closestTo(int piece) {
            countSidesOf(piece);
            int best = 0;
            for (int other = 1; other < count; other++) {
                if (sides[other] > sides[best]) {
                    best = other;
                }
            }
            return best;
        }

        private void countSidesOf(int piece) {
            Arrays.fill(sides, 0);
            for (int place = 0; place < grid.places; place++) {
                if (numberAt[place] == piece) {
                    countSidesAt(place);
                }
            }
        }

        private void countSidesAt(int place) {
            for (int way = 0; way < WAYS; way++) {
                int next = grid.besideOf(place, way);
                if (next != NONE && numberAt[next] != numberAt[place]) {
                    sides[numberAt[next]]++;
                }
            }
        }

        int sidesBetween(int a, int b) {
            countSidesOf(a);
            return sides[b];
        }

        int numberOf(int x, int y) {
            int place = grid.placeOf(x, y);
            return place == NONE ? NONE : numberAt[place];
        }

        int woodOf(int piece) {
            return woodAt[first[piece]];
        }

        int sizeOf(int piece) {
            return size[piece];
        }

        int firstXOf(int piece) {
            return grid.columnOf(first[piece]);
        }

        int leastXOf(int piece) {
            return leastX[piece];
        }

        int leastYOf(int piece) {
            return grid.rowOf(first[piece]);
        }

        int columnsOf(int piece) {
            return mostX[piece] - leastX[piece] + 1;
        }

        int rowsOf(int piece) {
            return mostY[piece] - leastYOf(piece) + 1;
        }

        boolean isAtEdge(int piece) {
            return leastX[piece] == 0 || mostX[piece] == grid.width - 1
                    || leastYOf(piece) == 0 || mostY[piece] == grid.height - 1;
        }
    }

    /** The walk along a piece's outline, the piece to the right. */
    private static final class Walk {
        private final Pieces pieces;
        private final int mostSteps;
        private final int[] turnX;
        private final int[] turnY;
        private int x;
        private int y;
        private int way;
        int corners;

        Walk(Grid grid, Pieces pieces) {
            this.pieces = pieces;
            this.mostSteps = grid.places * WAYS;
            // Each crossing of sides is passed twice at the most.
            int mostCorners = 2 * (grid.width + 1) * (grid.height + 1);
            this.turnX = new int[mostCorners];
            this.turnY = new int[mostCorners];
            this.x = 0;
            this.y = 0;
            this.way = 0;
            this.corners = 0;
        }

        void round(int piece) {
            int startX = pieces.firstXOf(piece);
            int startY = pieces.leastYOf(piece);
            x = startX;
            y = startY;
            way = 0;
            corners = 0;
            noteCorner();
            // Nothing of the piece lies left of its first place or above it, so the start is passed once only.
            for (int step = 0; step < mostSteps; step++) {
                x += STEP_X[way];
                y += STEP_Y[way];
                if (x == startX && y == startY) {
                    break;
                }
                turn(piece);
            }
        }

        /** To the right before all else: so places that touch by a corner alone stay apart. */
        private void turn(int piece) {
            int leftWay = (way + WAYS - 1) % WAYS;
            if (!isAhead(piece, way)) {
                way = (way + 1) % WAYS;
                noteCorner();
            } else if (isAhead(piece, leftWay)) {
                way = leftWay;
                noteCorner();
            }
        }

        private boolean isAhead(int piece, int towards) {
            return pieces.numberOf(x + AHEAD_X[towards], y + AHEAD_Y[towards]) == piece;
        }

        private void noteCorner() {
            if (corners < turnX.length) {
                turnX[corners] = x;
                turnY[corners] = y;
                corners++;
            }
        }

        int cornerX(int k) {
            return turnX[k];
        }

        int cornerY(int k) {
            return turnY[k];
        }
    }

    /** What a tool covers of a piece without leaving it. */
    private static final class Tool {
        private final Grid grid;
        private final Pieces pieces;
        private final boolean[] marked;
        int covered;

        Tool(Grid grid, Pieces pieces) {
            this.grid = grid;
            this.pieces = pieces;
            this.marked = new boolean[grid.places];
            this.covered = 0;
        }

        void cover(int piece, int radius) {
            for (int place = 0; place < grid.places; place++) {
                marked[place] = false;
            }
            covered = 0;
            for (int y = radius; y < grid.height - radius; y++) {
                for (int x = radius; x < grid.width - radius; x++) {
                    if (fits(piece, x, y, radius)) {
                        mark(x, y, radius);
                    }
                }
            }
        }

        private boolean fits(int piece, int middleX, int middleY, int radius) {
            for (int y = middleY - radius; y <= middleY + radius; y++) {
                for (int x = middleX - radius; x <= middleX + radius; x++) {
                    if (pieces.numberOf(x, y) != piece) {
                        return false;
                    }
                }
            }
            return true;
        }

        private void mark(int middleX, int middleY, int radius) {
            for (int y = middleY - radius; y <= middleY + radius; y++) {
                for (int x = middleX - radius; x <= middleX + radius; x++) {
                    int place = grid.placeOf(x, y);
                    if (place != NONE && !marked[place]) {
                        marked[place] = true;
                        covered++;
                    }
                }
            }
        }

        boolean covers(int x, int y) {
            int place = grid.placeOf(x, y);
            return place != NONE && marked[place];
        }
    }

    /** Numbers put in a row by what comes first; of those that are alike the lesser one. */
    private abstract static class Ranking {
        private final int[] row;

        Ranking(int most) {
            this.row = new int[most];
        }

        /** Less than 0 if a comes before b whatever their numbers, more than 0 the other way round. */
        abstract int compare(int a, int b);

        void rank(int count) {
            for (int number = 0; number < count && number < row.length; number++) {
                int spot = number;
                // Lesser numbers were put in before, so one that is alike stays behind them.
                while (spot > 0 && compare(number, row[spot - 1]) < 0) {
                    row[spot] = row[spot - 1];
                    spot--;
                }
                row[spot] = number;
            }
        }

        int ranked(int k) {
            return row[k];
        }
    }

    /** Kinds, the brightest first. */
    private static final class Brightest extends Ranking {
        private final Colours woods;

        Brightest(Colours woods, int kinds) {
            super(kinds);
            this.woods = woods;
        }

        int compare(int a, int b) {
            return Integer.compare(woods.brightness(b), woods.brightness(a));
        }
    }

    /** Pieces as they are laid: those off the edge first, then the larger ones. */
    private static final class Laying extends Ranking {
        private final Pieces pieces;

        Laying(Pieces pieces, int most) {
            super(most);
            this.pieces = pieces;
        }

        int compare(int a, int b) {
            if (pieces.isAtEdge(a) != pieces.isAtEdge(b)) {
                return pieces.isAtEdge(b) ? -1 : 1;
            }
            return Integer.compare(pieces.sizeOf(b), pieces.sizeOf(a));
        }
    }

    /** Pieces as they come to the sheet: the higher ones first, then the wider ones. */
    private static final class Highest extends Ranking {
        private final Pieces pieces;

        Highest(Pieces pieces, int most) {
            super(most);
            this.pieces = pieces;
        }

        int compare(int a, int b) {
            if (pieces.rowsOf(a) != pieces.rowsOf(b)) {
                return Integer.compare(pieces.rowsOf(b), pieces.rowsOf(a));
            }
            return Integer.compare(pieces.columnsOf(b), pieces.columnsOf(a));
        }
    }

    /** The sheet on which pieces lie in rows. */
    private static final class Sheet {
        private final Pieces pieces;
        private final Ranking highest;
        private final int[] lyingX;
        private final int[] lyingY;
        private final int[] rowTop;
        private final int[] rowHeight;
        private final int[] rowUsed;
        private int rows;
        private int bottom;

        Sheet(Pieces pieces, int most) {
            this.pieces = pieces;
            this.highest = new Highest(pieces, most);
            this.lyingX = new int[most];
            this.lyingY = new int[most];
            this.rowTop = new int[most];
            this.rowHeight = new int[most];
            this.rowUsed = new int[most];
            this.rows = 0;
            this.bottom = 0;
        }

        /** Lays all pieces that fit on a sheet of w by h: how many. */
        int fill(int w, int h) {
            highest.rank(pieces.count);
            rows = 0;
            bottom = 0;
            int laid = 0;
            for (int k = 0; k < pieces.count; k++) {
                int piece = highest.ranked(k);
                int row = rowFor(piece, w, h);
                if (row == NONE) {
                    lyingX[piece] = NONE;
                    lyingY[piece] = NONE;
                } else {
                    put(piece, row);
                    laid++;
                }
            }
            return laid;
        }

        private int rowFor(int piece, int w, int h) {
            int columns = pieces.columnsOf(piece);
            int height = pieces.rowsOf(piece);
            for (int row = 0; row < rows; row++) {
                if (rowUsed[row] + columns <= w && height <= rowHeight[row]) {
                    return row;
                }
            }
            return columns <= w && bottom + height <= h ? newRow(height) : NONE;
        }

        private int newRow(int height) {
            if (rows >= rowTop.length) {
                return NONE;
            }
            rowTop[rows] = bottom;
            rowHeight[rows] = height;
            rowUsed[rows] = 0;
            bottom += height;
            rows++;
            return rows - 1;
        }

        private void put(int piece, int row) {
            lyingX[piece] = rowUsed[row];
            lyingY[piece] = rowTop[row];
            rowUsed[row] += pieces.columnsOf(piece);
        }

        int xOf(int piece) {
            return lyingX[piece];
        }

        int yOf(int piece) {
            return lyingY[piece];
        }
    }
}
