import java.util.Arrays;
import java.util.function.Supplier;

/** Terms: "A call that throws changes nothing; of several exceptions the one named first is thrown." */
public final class TermsThrowsTest {
    private static final int WIDTH = 4;
    private static final int HEIGHT = 3;
    private static final int[][] WOODS = {{0, 0, 0}, {255, 255, 255}, {255, 0, 0}};
    private static final String[] ROWS = {"0001", "0201", "0001"};

    /** A call with these arguments. */
    private interface Asking {
        Object ask(PictureInlays x, int[] a);
    }

    /** One of the states an object can be in, and how to get there. */
    private static final class State {
        final String name;
        final boolean parted;
        final boolean nested;
        final int lastPiece;
        final Supplier<PictureInlays> make;

        State(String name, boolean parted, boolean nested, int lastPiece, Supplier<PictureInlays> make) {
            this.name = name;
            this.parted = parted;
            this.nested = nested;
            this.lastPiece = lastPiece;
            this.make = make;
        }
    }

    private static final State[] STATES = {
        new State("not parted", false, false, 2, TermsThrowsTest::drawn),
        new State("parted", true, false, 2, TermsThrowsTest::parted),
        new State("nested", true, true, 2, TermsThrowsTest::nested),
        new State("another colour since it was nested", false, false, 2, () -> {
            PictureInlays x = nested();
            x.pixel(0, 0, 255, 255, 255);
            x.pixel(0, 0, 0, 0, 0);
            return x;
        }),
        new State("parted anew since it was nested", true, false, 1, () -> {
            PictureInlays x = nested();
            x.part(2);
            return x;
        }),
        new State("the same colour since it was nested", true, true, 2, () -> {
            PictureInlays x = nested();
            x.pixel(0, 0, 0, 0, 0);
            x.kind(1, 255, 255, 255);
            return x;
        })};

    public static void main(String[] args) {
        Check.says("A call that throws changes nothing; of several exceptions the one named first is thrown");
        for (State state : STATES) {
            colours(state);
            pieces(state);
            outlines(state);
            tools(state);
            sheets(state);
            others(state);
        }
        Check.end();
    }

    private static PictureInlays drawn() {
        PictureInlays x = new PictureInlays(WIDTH, HEIGHT, WOODS.length);
        for (int k = 0; k < WOODS.length; k++) {
            x.kind(k, WOODS[k][0], WOODS[k][1], WOODS[k][2]);
        }
        for (int place = 0; place < WIDTH * HEIGHT; place++) {
            int[] colour = WOODS[ROWS[place / WIDTH].charAt(place % WIDTH) - '0'];
            x.pixel(place % WIDTH, place / WIDTH, colour[0], colour[1], colour[2]);
        }
        return x;
    }

    private static PictureInlays parted() {
        PictureInlays x = drawn();
        x.part(1);
        return x;
    }

    private static PictureInlays nested() {
        PictureInlays x = parted();
        x.nest(4, 4);
        return x;
    }

    private static String everything(PictureInlays x) {
        int[][][] picture = new int[HEIGHT][WIDTH][];
        for (int place = 0; place < WIDTH * HEIGHT; place++) {
            picture[place / WIDTH][place % WIDTH] = WOODS[ROWS[place / WIDTH].charAt(place % WIDTH) - '0'];
        }
        return Everything.of(x, picture, WOODS);
    }

    private static void colours(State state) {
        all(state, "pixel", "iiaaa", false, (x, a) -> x.pixel(a[0], a[1], a[2], a[3], a[4]),
                WIDTH - 1, HEIGHT - 1, 255, 255, 255);
        all(state, "kind", "iaaa", false, (x, a) -> x.kind(a[0], a[1], a[2], a[3]), 2, 255, 255, 255);
        all(state, "part", "A", false, (x, a) -> x.part(a[0]), 400);
    }

    private static void pieces(State state) {
        all(state, "pieceOf", "ii", !state.parted, (x, a) -> x.pieceOf(a[0], a[1]), WIDTH - 1, HEIGHT - 1);
        all(state, "piece", "ia", !state.parted, (x, a) -> x.piece(a[0], a[1]), state.lastPiece, 6);
        all(state, "joined", "ii", !state.parted, (x, a) -> x.joined(a[0], a[1]), state.lastPiece, state.lastPiece);
        all(state, "order", "i", !state.parted, (x, a) -> x.order(a[0]), state.lastPiece);
    }

    private static void outlines(State state) {
        all(state, "outline", "i", !state.parted, (x, a) -> x.outline(a[0]), state.lastPiece);
        all(state, "corner", "iii", !state.parted, (x, a) -> x.corner(a[0], a[1], a[2]), state.lastPiece, 3, 1);
    }

    private static void tools(State state) {
        all(state, "left", "ia", !state.parted, (x, a) -> x.left(a[0], a[1]), state.lastPiece, 10);
        all(state, "reached", "iia", !state.parted, (x, a) -> x.reached(a[0], a[1], a[2]), WIDTH - 1, HEIGHT - 1, 10);
    }

    private static void sheets(State state) {
        all(state, "nest", "AA", !state.parted, (x, a) -> x.nest(a[0], a[1]), 100, 100);
        all(state, "at", "ii", !state.nested, (x, a) -> x.at(a[0], a[1]), state.lastPiece, 1);
    }

    private static void others(State state) {
        all(state, "border", "AAi", false, (x, a) -> x.border(a[0], a[1], a[2]), 1000000, 1000000, 2);
        all(state, "sorted", "i", false, (x, a) -> x.sorted(a[0]), 2);
    }

    /**
     * All combinations of each argument at its ends and just beyond them. Kinds of arguments: i from 0 on for an
     * IndexOutOfBoundsException, a from 0 on and A from 1 on for an IllegalArgumentException.
     */
    private static void all(State state, String name, String kinds, boolean wrongState, Asking asking, int... most) {
        String untouched = everything(state.make.get());
        int count = 1 << (2 * most.length);
        for (int choice = 0; choice < count; choice++) {
            int[] a = new int[most.length];
            boolean index = false;
            boolean argument = false;
            for (int i = 0; i < a.length; i++) {
                int least = kinds.charAt(i) == 'A' ? 1 : 0;
                int end = choice >> (2 * i) & 3;
                a[i] = new int[] {least - 1, least, most[i], most[i] + 1}[end];
                boolean wrong = end == 0 || end == 3;
                index |= wrong && kinds.charAt(i) == 'i';
                argument |= wrong && kinds.charAt(i) != 'i';
            }
            String due = wrongState ? Check.STATE : index ? Check.INDEX : argument ? Check.ARGUMENT : "no throw";
            String what = name + Arrays.toString(a) + ", " + state.name;
            PictureInlays x = state.make.get();
            String answer = Check.answer(() -> asking.ask(x, a));
            Check.same(what, due, answer.startsWith("throws.") ? answer : "no throw");
            if (answer.startsWith("throws.")) {
                Check.same("all of it after " + what, untouched, everything(x));
            }
        }
    }
}
