/**
 * Terms: "IllegalStateException: it was not PARTED since another colour was told (pixel() and kind() that answer
 * false tell none)."
 */
public final class TermsStatesTest {
    private static final String[] STEPS = {"pixel, another", "pixel, the same", "kind, another", "kind, the same",
        "part", "part that throws", "nest", "nest that throws"};
    private static final int LENGTH = 5;

    private final PictureInlays x = new PictureInlays(2, 2, 2);
    private int placeBlue = 0;
    private int kindBlue = 0;
    private boolean parted = false;
    private boolean nested = false;

    private TermsStatesTest() {
        x.kind(1, 255, 255, kindBlue);
    }

    public static void main(String[] args) {
        Check.says("IllegalStateException: it was not PARTED since another colour was told"
                + " (pixel() and kind() that answer false tell none)");
        int runs = 1;
        for (int i = 0; i < LENGTH; i++) {
            runs *= STEPS.length;
        }
        for (int run = 0; run < runs; run++) {
            new TermsStatesTest().go(run);
        }
        Check.end();
    }

    /** All runs of so many steps, and after the last one all that may throw for its state. */
    private void go(int run) {
        StringBuilder taken = new StringBuilder();
        int rest = run;
        for (int i = 0; i < LENGTH; i++) {
            int step = rest % STEPS.length;
            rest /= STEPS.length;
            taken.append(STEPS[step]).append("; ");
            take(step, taken.toString());
        }
        ask(taken.toString());
    }

    private void take(int step, String name) {
        switch (step) {
            case 0:
                placeBlue++;
                Check.due(name, true, () -> x.pixel(1, 1, 0, 0, placeBlue));
                parted = false;
                break;
            case 1:
                Check.due(name, false, () -> x.pixel(1, 1, 0, 0, placeBlue));
                break;
            case 2:
                kindBlue++;
                Check.due(name, true, () -> x.kind(1, 255, 255, kindBlue));
                parted = false;
                break;
            case 3:
                Check.due(name, false, () -> x.kind(1, 255, 255, kindBlue));
                break;
            case 4:
                Check.due(name, 1, () -> x.part(1));
                parted = true;
                nested = false;
                break;
            case 5:
                Check.due(name, Check.ARGUMENT, () -> x.part(401));
                break;
            case 6:
                Check.due(name, parted ? 1 : Check.STATE, () -> x.nest(2, 2));
                nested |= parted;
                break;
            default:
                Check.due(name, parted ? Check.ARGUMENT : Check.STATE, () -> x.nest(0, 101));
        }
        nested &= parted;
    }

    private void ask(String name) {
        Check.due(name + "pieceOf", parted ? 0 : Check.STATE, () -> x.pieceOf(1, 1));
        Check.due(name + "piece", parted ? 4 : Check.STATE, () -> x.piece(0, 1));
        Check.due(name + "joined", parted ? 0 : Check.STATE, () -> x.joined(0, 0));
        Check.due(name + "outline", parted ? 4 : Check.STATE, () -> x.outline(0));
        Check.due(name + "corner", parted ? 2 : Check.STATE, () -> x.corner(0, 2, 0));
        Check.due(name + "left", parted ? 4 : Check.STATE, () -> x.left(0, 1));
        Check.due(name + "reached", parted ? "true" : Check.STATE, () -> x.reached(0, 0, 0));
        Check.due(name + "order", parted ? 0 : Check.STATE, () -> x.order(0));
        Check.due(name + "at", nested ? 0 : Check.STATE, () -> x.at(0, 0));
        Check.due(name + "border", 1, () -> x.border(3, 2, 1));
        Check.due(name + "sorted", 1, () -> x.sorted(0));
    }
}
