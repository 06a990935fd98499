import java.util.concurrent.Callable;

/** Counts and prints the answers that are not due; what a test's main method ends with. */
final class Check {
    private static int asked = 0;
    private static int wrong = 0;
    private static String sentence = "";

    static final String STATE = "throws.IllegalStateException";
    static final String INDEX = "throws.IndexOutOfBoundsException";
    static final String ARGUMENT = "throws.IllegalArgumentException";

    private Check() {
    }

    /** The document's sentence that the following checks are about; it is printed with what fails. */
    static void says(String words) {
        sentence = "\"" + words + "\": ";
    }

    /** What a call answers, or throws. and the very class that it throws. */
    static String answer(Callable<?> call) {
        try {
            return String.valueOf(call.call());
        } catch (Exception e) {
            return "throws." + e.getClass().getSimpleName();
        }
    }

    static void due(String what, Object want, Callable<?> call) {
        same(what, String.valueOf(want), answer(call));
    }

    static void same(String what, Object want, Object got) {
        asked++;
        if (!String.valueOf(want).equals(String.valueOf(got))) {
            wrong++;
            System.out.println(sentence + what + ": answered " + got + ", due is " + want);
        }
    }

    static void end() {
        System.out.println(asked + " answers looked at, " + wrong + " wrong");
        System.exit(wrong == 0 && asked > 0 ? 0 : 1);
    }
}
