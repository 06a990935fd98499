import java.math.BigInteger;
import java.util.ArrayList;
import java.util.Arrays;
import java.util.Comparator;
import java.util.List;
import java.util.TreeMap;

/** The document once more, written for being read and not for speed, by other means than the class itself. */
final class Model {
    private final int width;
    private final int height;
    private final int[][] picture;
    private final int[][] woods;
    private int[] wood;
    private List<List<Integer>> pieces = null;
    private TreeMap<Integer, int[]> sheet = null;

    Model(int width, int height, int kinds) {
        this.width = Math.min(20, Math.max(1, width));
        this.height = Math.min(20, Math.max(1, height));
        this.picture = new int[this.width * this.height][3];
        this.woods = new int[Math.min(8, Math.max(1, kinds))][3];
        this.wood = new int[this.width * this.height];
    }

    boolean pixel(int x, int y, int r, int g, int b) {
        index(x, width);
        index(y, height);
        return tell(picture[y * width + x], r, g, b);
    }

    boolean kind(int k, int r, int g, int b) {
        index(k, woods.length);
        return tell(woods[k], r, g, b);
    }

    private boolean tell(int[] colour, int... told) {
        for (int c : told) {
            argument(c >= 0 && c <= 255);
        }
        if (Arrays.equals(colour, told)) {
            return false;
        }
        System.arraycopy(told, 0, colour, 0, 3);
        pieces = null;
        sheet = null;
        return true;
    }

    int part(int least) {
        argument(least >= 1 && least <= 400);
        sheet = null;
        for (int place = 0; place < wood.length; place++) {
            TreeMap<Integer, Integer> byDistance = new TreeMap<>();
            for (int k = woods.length - 1; k >= 0; k--) {
                int sum = 0;
                for (int c = 0; c < 3; c++) {
                    sum += Math.abs(picture[place][c] - woods[k][c]);
                }
                byDistance.put(sum, k);
            }
            wood[place] = byDistance.firstEntry().getValue();
        }
        pieces = hangingTogether();
        while (pieces.size() > 1) {
            List<Integer> small = pieces.stream().filter(p -> p.size() < least)
                    .min(Comparator.comparingInt(p -> p.size())).orElse(null);
            if (small == null) {
                break;
            }
            List<Integer> beside = pieces.stream().filter(p -> p != small)
                    .min(Comparator.comparingInt(p -> -sides(p, small))).get();
            int taken = wood[beside.get(0)];
            small.forEach(place -> wood[place] = taken);
            pieces = hangingTogether();
        }
        return pieces.size();
    }

    /** Every place takes the least place that it hangs together with, until nothing changes any more. */
    private List<List<Integer>> hangingTogether() {
        int[] least = new int[wood.length];
        for (int place = 0; place < least.length; place++) {
            least[place] = place;
        }
        boolean changed = true;
        while (changed) {
            changed = false;
            for (int a = 0; a < least.length; a++) {
                for (int b : new int[] {a + 1, a + width, a - 1, a - width}) {
                    if (beside(a, b) && wood[a] == wood[b] && least[b] < least[a]) {
                        least[a] = least[b];
                        changed = true;
                    }
                }
            }
        }
        TreeMap<Integer, List<Integer>> byFirst = new TreeMap<>();
        for (int place = 0; place < least.length; place++) {
            byFirst.computeIfAbsent(least[place], k -> new ArrayList<>()).add(place);
        }
        return new ArrayList<>(byFirst.values());
    }

    private boolean beside(int a, int b) {
        return a >= 0 && b >= 0 && a < wood.length && b < wood.length
                && Math.abs(a % width - b % width) + Math.abs(a / width - b / width) == 1;
    }

    private int sides(List<Integer> one, List<Integer> other) {
        int sum = 0;
        for (int a : one) {
            for (int b : other) {
                sum += beside(a, b) ? 1 : 0;
            }
        }
        return sum;
    }

    int pieceOf(int x, int y) {
        parted();
        index(x, width);
        index(y, height);
        for (int piece = 0; piece < pieces.size(); piece++) {
            if (pieces.get(piece).contains(y * width + x)) {
                return piece;
            }
        }
        throw new AssertionError();
    }

    int piece(int piece, int what) {
        List<Integer> places = placesOf(piece);
        argument(what >= 0 && what <= 6);
        int leastX = places.stream().mapToInt(p -> p % width).min().getAsInt();
        int mostX = places.stream().mapToInt(p -> p % width).max().getAsInt();
        int leastY = places.stream().mapToInt(p -> p / width).min().getAsInt();
        int mostY = places.stream().mapToInt(p -> p / width).max().getAsInt();
        boolean edge = places.stream().anyMatch(p -> p % width == 0 || p % width == width - 1
                || p / width == 0 || p / width == height - 1);
        int[] told = {wood[places.get(0)], places.size(), leastX, leastY, mostX - leastX + 1, mostY - leastY + 1, edge ? 1 : 0};
        return told[what];
    }

    int joined(int a, int b) {
        List<Integer> one = placesOf(a);
        List<Integer> other = placesOf(b);
        return a == b ? 0 : sides(one, other);
    }

    int outline(int piece) {
        return cornersOf(placesOf(piece)).size();
    }

    int corner(int piece, int k, int axis) {
        List<int[]> corners = cornersOf(placesOf(piece));
        index(axis, 2);
        index(k, corners.size());
        return corners.get(k)[axis];
    }

    /** Sides 0 .. 3 of a place are its upper, right, lower and left one, gone along clockwise. */
    private List<int[]> cornersOf(List<Integer> places) {
        List<int[]> corners = new ArrayList<>();
        int start = places.get(0);
        int place = start;
        int side = 0;
        do {
            int x = place % width + (side == 1 || side == 2 ? 1 : 0);
            int y = place / width + (side == 2 || side == 3 ? 1 : 0);
            int[] next = nextSide(places, place, side);
            if (corners.isEmpty()) {
                corners.add(new int[] {x, y});
            }
            if (next[1] != side) {
                int endX = place % width + (side == 0 || side == 1 ? 1 : 0);
                int endY = place / width + (side == 1 || side == 2 ? 1 : 0);
                corners.add(new int[] {endX, endY});
            }
            place = next[0];
            side = next[1];
        } while (place != start || side != 0);
        corners.remove(corners.size() - 1);
        return corners;
    }

    /** The same place's next side if it is bare, else the next place's same side, else that of the one across. */
    private int[] nextSide(List<Integer> places, int place, int side) {
        int turned = (side + 1) % 4;
        int straight = across(places, place, turned);
        if (straight < 0) {
            return new int[] {place, turned};
        }
        int outer = across(places, straight, side);
        return outer < 0 ? new int[] {straight, side} : new int[] {outer, (side + 3) % 4};
    }

    private int across(List<Integer> places, int place, int side) {
        int x = place % width + new int[] {0, 1, 0, -1}[side];
        int y = place / width + new int[] {-1, 0, 1, 0}[side];
        return x >= 0 && x < width && places.contains(y * width + x) ? y * width + x : -1;
    }

    int left(int piece, int radius) {
        List<Integer> places = placesOf(piece);
        argument(radius >= 0 && radius <= 10);
        int sum = 0;
        for (int place : places) {
            sum += isReached(places, place, radius) ? 0 : 1;
        }
        return sum;
    }

    boolean reached(int x, int y, int radius) {
        int piece = pieceOf(x, y);
        argument(radius >= 0 && radius <= 10);
        return isReached(pieces.get(piece), y * width + x, radius);
    }

    private boolean isReached(List<Integer> places, int place, int radius) {
        for (int middle : places) {
            boolean covers = Math.abs(middle % width - place % width) <= radius
                    && Math.abs(middle / width - place / width) <= radius;
            if (covers && around(places, middle, radius) == (2 * radius + 1) * (2 * radius + 1)) {
                return true;
            }
        }
        return false;
    }

    private long around(List<Integer> places, int middle, int radius) {
        return places.stream().filter(p -> Math.abs(p % width - middle % width) <= radius
                && Math.abs(p / width - middle / width) <= radius).count();
    }

    int order(int k) {
        parted();
        index(k, pieces.size());
        return numbers(Comparator.<Integer>comparingInt(p -> piece(p, 6)).thenComparingInt(p -> -piece(p, 1))).get(k);
    }

    private List<Integer> numbers(Comparator<Integer> order) {
        List<Integer> numbers = new ArrayList<>();
        for (int piece = 0; piece < pieces.size(); piece++) {
            numbers.add(piece);
        }
        numbers.sort(order.thenComparingInt(p -> p));
        return numbers;
    }

    int nest(int w, int h) {
        parted();
        argument(w >= 1 && w <= 100 && h >= 1 && h <= 100);
        sheet = new TreeMap<>();
        List<int[]> rows = new ArrayList<>();
        for (int piece : numbers(Comparator.<Integer>comparingInt(p -> -piece(p, 5)).thenComparingInt(p -> -piece(p, 4)))) {
            int columns = piece(piece, 4);
            int high = piece(piece, 5);
            int[] row = rows.stream().filter(r -> r[0] + columns <= w && high <= r[2]).findFirst().orElse(null);
            int top = rows.stream().mapToInt(r -> r[2]).sum();
            if (row == null && columns <= w && top + high <= h) {
                row = new int[] {0, top, high};
                rows.add(row);
            }
            if (row != null) {
                sheet.put(piece, new int[] {row[0], row[1]});
                row[0] += columns;
            }
        }
        return sheet.size();
    }

    int at(int piece, int axis) {
        if (sheet == null) {
            throw new IllegalStateException();
        }
        placesOf(piece);
        index(axis, 2);
        return sheet.containsKey(piece) ? sheet.get(piece)[axis] : -1;
    }

    int border(int length, int repeat, int part) {
        index(part, 3);
        argument(length >= 1 && length <= 1000000 && repeat >= 1 && repeat <= 1000000);
        int repeats = 0;
        int rest = length;
        while (rest >= repeat) {
            rest -= repeat;
            repeats++;
        }
        if (repeats == 0) {
            return part == 2 ? 1 : 0;
        }
        int divisor = BigInteger.valueOf(rest).gcd(BigInteger.valueOf(repeats)).intValue();
        return new int[] {repeats, rest / divisor, repeats / divisor}[part];
    }

    int sorted(int k) {
        index(k, woods.length);
        List<Integer> kinds = new ArrayList<>();
        for (int kind = 0; kind < woods.length; kind++) {
            kinds.add(kind);
        }
        kinds.sort(Comparator.<Integer>comparingInt(i -> -(2 * woods[i][0] + 5 * woods[i][1] + woods[i][2])));
        return kinds.get(k);
    }

    private List<Integer> placesOf(int piece) {
        parted();
        index(piece, pieces.size());
        return pieces.get(piece);
    }

    private void parted() {
        if (pieces == null) {
            throw new IllegalStateException();
        }
    }

    private static void index(int index, int count) {
        if (index < 0 || index >= count) {
            throw new IndexOutOfBoundsException();
        }
    }

    private static void argument(boolean asSaid) {
        if (!asSaid) {
            throw new IllegalArgumentException();
        }
    }
}
