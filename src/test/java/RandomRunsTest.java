import java.util.Random;
import java.util.concurrent.Callable;

/** Runs of calls, the same ones every time, on the class and on the model: the answers must be the same. */
public final class RandomRunsTest {
    private static final int RUNS = 600;
    private static final int OUTLINES = 60;
    private static final int CALLS = 512;

    private final Random random;
    private final PictureInlays tried;
    private final Model model;
    private final int width;
    private final int height;
    private final int kinds;
    private final String name;
    private int calls = 0;

    private RandomRunsTest(int run) {
        this(run, new Random(run), run % 10 == 0 ? 20 : 3 + run % 7);
    }

    private RandomRunsTest(int run, Random random, int most) {
        this(run, random, 1 + random.nextInt(most), 1 + random.nextInt(most), 1 + random.nextInt(run % 3 == 0 ? 8 : 3));
    }

    private RandomRunsTest(int run, Random random, int width, int height, int kinds) {
        this.random = random;
        this.width = width;
        this.height = height;
        this.kinds = kinds;
        tried = new PictureInlays(width, height, kinds);
        model = new Model(width, height, kinds);
        name = "run " + run + " (" + width + ", " + height + ", " + kinds + "): ";
    }

    public static void main(String[] args) {
        for (int run = 0; run < RUNS; run++) {
            new RandomRunsTest(run).go();
        }
        for (int run = 0; run < OUTLINES; run++) {
            new RandomRunsTest(run, new Random(run), 20, 20, 2).goRoundAll();
        }
        Check.end();
    }

    private void go() {
        for (int k = 0; k < kinds; k++) {
            colourKind();
        }
        int painted = Math.min(width * height, 300);
        for (int i = 0; i < painted; i++) {
            colourPlace(i % width, i / width);
        }
        // One round makes three calls at the most, and what comes after the last of them is free.
        while (calls <= CALLS - 3) {
            anyCall();
        }
    }

    /** Long outlines that touch themselves, in full, the largest piece's first. */
    private void goRoundAll() {
        same("kind(1, 9, 9, 9)", () -> model.kind(1, 9, 9, 9), () -> tried.kind(1, 9, 9, 9));
        for (int i = 0; i < 160; i++) {
            int x = random.nextInt(width);
            int y = random.nextInt(height);
            same("pixel(" + x + ", " + y + ", 9, 9, 9)",
                    () -> model.pixel(x, y, 9, 9, 9), () -> tried.pixel(x, y, 9, 9, 9));
        }
        int least = 1 + random.nextInt(4);
        same("part(" + least + ")", () -> model.part(least), () -> tried.part(least));
        int pieces = model.part(least);
        int largest = 0;
        for (int piece = 1; piece < pieces; piece++) {
            largest = model.piece(piece, 1) > model.piece(largest, 1) ? piece : largest;
        }
        goRound(largest);
        for (int piece = 0; piece < pieces && calls < CALLS - 2; piece++) {
            goRound(piece);
        }
    }

    private void goRound(int piece) {
        same("outline(" + piece + ")", () -> model.outline(piece), () -> tried.outline(piece));
        int corners = model.outline(piece);
        for (int corner = 0; corner <= corners && calls < CALLS - 1; corner++) {
            int k = corner;
            same("corner(" + piece + ", " + k + ", 0)", () -> model.corner(piece, k, 0), () -> tried.corner(piece, k, 0));
            same("corner(" + piece + ", " + k + ", 1)", () -> model.corner(piece, k, 1), () -> tried.corner(piece, k, 1));
        }
    }

    private void same(String what, Callable<?> due, Callable<?> call) {
        calls++;
        Check.due(name + what, Check.answer(due), call);
    }

    private void anyCall() {
        int chance = random.nextInt(100);
        if (chance < 3) {
            colourPlace(number(width), number(height));
        } else if (chance < 4) {
            colourKind();
        } else if (chance < 12) {
            int least = random.nextInt(4) == 0 ? number(402) : 1 + random.nextInt(5);
            same("part(" + least + ")", () -> model.part(least), () -> tried.part(least));
        } else if (chance < 56) {
            askOfPieces(chance % 11);
        } else {
            askOfPieces(random.nextInt(11));
        }
    }

    private void askOfPieces(int which) {
        int a = which == 5 || which == 6 || which == 0 ? number(width) : number(6);
        int b = which == 5 || which == 6 || which == 0 ? number(height) : number(which == 3 ? 14 : 8);
        int c = number(which == 3 ? 2 : 3);
        String of = "call " + which + " of " + a + ", " + b + ", " + c;
        switch (which) {
            case 0:
                same(of, () -> model.pieceOf(a, b), () -> tried.pieceOf(a, b));
                break;
            case 1:
                same(of, () -> model.piece(a, b), () -> tried.piece(a, b));
                break;
            case 2:
                same(of, () -> model.joined(a, b), () -> tried.joined(a, b));
                break;
            case 3:
                same(of, () -> model.corner(a, b, c), () -> tried.corner(a, b, c));
                break;
            case 4:
                same(of, () -> model.left(a, c), () -> tried.left(a, c));
                break;
            case 5:
            case 6:
                same(of, () -> model.reached(a, b, c), () -> tried.reached(a, b, c));
                break;
            case 7:
                same(of, () -> model.order(b), () -> tried.order(b));
                break;
            case 8:
                same(of, () -> model.outline(b), () -> tried.outline(b));
                break;
            case 9:
                same(of, () -> model.at(a, c), () -> tried.at(a, c));
                break;
            default:
                askOfSheetsAndKinds();
        }
    }

    private void askOfSheetsAndKinds() {
        int w = random.nextInt(10) == 0 ? number(102) : 1 + random.nextInt(12);
        int h = random.nextInt(10) == 0 ? number(102) : 1 + random.nextInt(12);
        same("nest(" + w + ", " + h + ")", () -> model.nest(w, h), () -> tried.nest(w, h));
        int k = number(kinds);
        same("sorted(" + k + ")", () -> model.sorted(k), () -> tried.sorted(k));
        int length = random.nextInt(3) == 0 ? number(1000001) : 1 + random.nextInt(1000);
        int repeat = random.nextInt(3) == 0 ? number(1000) : 1 + random.nextInt(20);
        int part = number(3);
        same("border(" + length + ", " + repeat + ", " + part + ")",
                () -> model.border(length, repeat, part), () -> tried.border(length, repeat, part));
    }

    /** A number below a bound, now and then one that is just or far outside. */
    private int number(int bound) {
        switch (random.nextInt(40)) {
            case 0:
                return -1;
            case 1:
                return bound;
            case 2:
                return random.nextInt();
            default:
                return random.nextInt(bound);
        }
    }

    private int colour() {
        int chance = random.nextInt(200);
        return chance == 0 ? 256 : chance == 1 ? -1 : chance < 100 ? 0 : chance < 190 ? 255 : random.nextInt(256);
    }

    private void colourPlace(int x, int y) {
        int r = colour();
        int g = random.nextBoolean() ? r : colour();
        int b = random.nextBoolean() ? g : colour();
        same("pixel(" + x + ", " + y + ", " + r + ", " + g + ", " + b + ")",
                () -> model.pixel(x, y, r, g, b), () -> tried.pixel(x, y, r, g, b));
    }

    private void colourKind() {
        int k = number(kinds);
        int r = colour();
        int g = random.nextBoolean() ? r : colour();
        int b = random.nextBoolean() ? g : colour();
        same("kind(" + k + ", " + r + ", " + g + ", " + b + ")",
                () -> model.kind(k, r, g, b), () -> tried.kind(k, r, g, b));
    }
}
