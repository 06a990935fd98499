import java.util.Random;

/** Runs of calls, the same ones every time, on the class and on the model: the answers must be the same. */
public final class RandomRunsTest {
    private static final int RUNS = 600;
    private static final int CALLS = 512;

    private final Random random;
    private final PictureInlays tried;
    private final Model model;
    private final int width;
    private final int height;
    private final int kinds;
    private final String name;

    private RandomRunsTest(int run) {
        random = new Random(run);
        int most = run % 10 == 0 ? 20 : 3 + run % 7;
        width = 1 + random.nextInt(most);
        height = 1 + random.nextInt(most);
        kinds = 1 + random.nextInt(run % 3 == 0 ? 8 : 3);
        tried = new PictureInlays(width, height, kinds);
        model = new Model(width, height, kinds);
        name = "run " + run + " (" + width + ", " + height + ", " + kinds + "): ";
    }

    public static void main(String[] args) {
        for (int run = 0; run < RUNS; run++) {
            new RandomRunsTest(run).go();
        }
        Check.end();
    }

    private void go() {
        for (int k = 0; k < kinds; k++) {
            colourKind();
        }
        int painted = Math.min(width * height, 300);
        for (int i = 0; i < painted; i++) {
            colourPlace(i % width, i / width);
        }
        for (int call = kinds + painted; call < CALLS; call++) {
            anyCall();
        }
    }

    private void anyCall() {
        int chance = random.nextInt(100);
        if (chance < 3) {
            colourPlace(number(width), number(height));
        } else if (chance < 4) {
            colourKind();
        } else if (chance < 12) {
            int least = random.nextInt(4) == 0 ? number(402) : 1 + random.nextInt(5);
            Check.due(name + "part(" + least + ")", Check.answer(() -> model.part(least)), () -> tried.part(least));
        } else if (chance < 56) {
            askOfPieces(chance % 11);
        } else {
            askOfPieces(random.nextInt(11));
        }
    }

    private void askOfPieces(int which) {
        int a = which == 5 || which == 6 || which == 0 ? number(width) : number(6);
        int b = which == 5 || which == 6 || which == 0 ? number(height) : number(which == 3 ? 14 : 8);
        int c = number(which == 3 ? 2 : 3);
        String of = name + "call " + which + " of " + a + ", " + b + ", " + c;
        switch (which) {
            case 0:
                Check.due(of, Check.answer(() -> model.pieceOf(a, b)), () -> tried.pieceOf(a, b));
                break;
            case 1:
                Check.due(of, Check.answer(() -> model.piece(a, b)), () -> tried.piece(a, b));
                break;
            case 2:
                Check.due(of, Check.answer(() -> model.joined(a, b)), () -> tried.joined(a, b));
                break;
            case 3:
                Check.due(of, Check.answer(() -> model.corner(a, b, c)), () -> tried.corner(a, b, c));
                break;
            case 4:
                Check.due(of, Check.answer(() -> model.left(a, c)), () -> tried.left(a, c));
                break;
            case 5:
            case 6:
                Check.due(of, Check.answer(() -> model.reached(a, b, c)), () -> tried.reached(a, b, c));
                break;
            case 7:
                Check.due(of, Check.answer(() -> model.order(b)), () -> tried.order(b));
                break;
            case 8:
                Check.due(of, Check.answer(() -> model.outline(b)), () -> tried.outline(b));
                break;
            case 9:
                Check.due(of, Check.answer(() -> model.at(a, c)), () -> tried.at(a, c));
                break;
            default:
                askOfSheetsAndKinds();
        }
    }

    private void askOfSheetsAndKinds() {
        int w = random.nextInt(10) == 0 ? number(102) : 1 + random.nextInt(12);
        int h = random.nextInt(10) == 0 ? number(102) : 1 + random.nextInt(12);
        Check.due(name + "nest(" + w + ", " + h + ")", Check.answer(() -> model.nest(w, h)), () -> tried.nest(w, h));
        int k = number(kinds);
        Check.due(name + "sorted(" + k + ")", Check.answer(() -> model.sorted(k)), () -> tried.sorted(k));
        int length = random.nextInt(3) == 0 ? number(1000001) : 1 + random.nextInt(1000);
        int repeat = random.nextInt(3) == 0 ? number(1000) : 1 + random.nextInt(20);
        int part = number(3);
        Check.due(name + "border(" + length + ", " + repeat + ", " + part + ")",
                Check.answer(() -> model.border(length, repeat, part)), () -> tried.border(length, repeat, part));
    }

    /** A number below a bound, now and then one that is just or far outside. */
    private int number(int bound) {
        switch (random.nextInt(40)) {
            case 0:
                return -1;
            case 1:
                return bound;
            case 2:
                return random.nextInt();
            default:
                return random.nextInt(bound);
        }
    }

    private int colour() {
        int chance = random.nextInt(200);
        return chance == 0 ? 256 : chance == 1 ? -1 : chance < 100 ? 0 : chance < 190 ? 255 : random.nextInt(256);
    }

    private void colourPlace(int x, int y) {
        int r = colour();
        int g = random.nextBoolean() ? r : colour();
        int b = random.nextBoolean() ? g : colour();
        Check.due(name + "pixel(" + x + ", " + y + ", " + r + ", " + g + ", " + b + ")",
                Check.answer(() -> model.pixel(x, y, r, g, b)), () -> tried.pixel(x, y, r, g, b));
    }

    private void colourKind() {
        int k = number(kinds);
        int r = colour();
        int g = random.nextBoolean() ? r : colour();
        int b = random.nextBoolean() ? g : colour();
        Check.due(name + "kind(" + k + ", " + r + ", " + g + ", " + b + ")",
                Check.answer(() -> model.kind(k, r, g, b)), () -> tried.kind(k, r, g, b));
    }
}
