import java.lang.reflect.Constructor;
import java.lang.reflect.Field;
import java.lang.reflect.Method;
import java.lang.reflect.Modifier;
import java.util.Arrays;
import java.util.TreeSet;

/** The public face is the document's, with no member more. */
public final class FaceTest {
    private static final String STATE = "IllegalStateException";
    private static final String INDEX = "IndexOutOfBoundsException";
    private static final String ARGUMENT = "IllegalArgumentException";

    public static void main(String[] args) {
        TreeSet<String> due = new TreeSet<>(Arrays.asList(
                "boolean pixel 5 " + INDEX + " " + ARGUMENT,
                "boolean kind 4 " + INDEX + " " + ARGUMENT,
                "int part 1 " + ARGUMENT,
                "int pieceOf 2 " + STATE + " " + INDEX,
                "int piece 2 " + STATE + " " + INDEX + " " + ARGUMENT,
                "int joined 2 " + STATE + " " + INDEX,
                "int outline 1 " + STATE + " " + INDEX,
                "int corner 3 " + STATE + " " + INDEX,
                "int left 2 " + STATE + " " + INDEX + " " + ARGUMENT,
                "boolean reached 3 " + STATE + " " + INDEX + " " + ARGUMENT,
                "int order 1 " + STATE + " " + INDEX,
                "int nest 2 " + STATE + " " + ARGUMENT,
                "int at 2 " + STATE + " " + INDEX,
                "int border 3 " + INDEX + " " + ARGUMENT,
                "int sorted 1 " + INDEX));
        Check.same("methods that are not private", due, openMethods());
        Check.same("no private method bears a public one's name", "", privateNamesTaken());
        Check.same("fields that are not private", "[NONE]", openFields());
        Check.same("NONE", -1, PictureInlays.NONE);
        Check.same("constructors", "[public PictureInlays(int,int,int)]", constructors());
        int modifiers = PictureInlays.class.getModifiers();
        Check.same("public and final", true, Modifier.isPublic(modifiers) && Modifier.isFinal(modifiers));
        Check.end();
    }

    private static TreeSet<String> openMethods() {
        TreeSet<String> found = new TreeSet<>();
        for (Method method : PictureInlays.class.getDeclaredMethods()) {
            if (!Modifier.isPrivate(method.getModifiers())) {
                StringBuilder text = new StringBuilder();
                text.append(method.getReturnType()).append(' ').append(method.getName());
                text.append(' ').append(method.getParameterCount());
                for (Class<?> thrown : method.getExceptionTypes()) {
                    text.append(' ').append(thrown.getSimpleName());
                }
                found.add(text.toString());
            }
        }
        return found;
    }

    private static String privateNamesTaken() {
        TreeSet<String> names = new TreeSet<>();
        for (Method method : PictureInlays.class.getMethods()) {
            names.add(method.getName());
        }
        StringBuilder taken = new StringBuilder();
        for (Method method : PictureInlays.class.getDeclaredMethods()) {
            if (Modifier.isPrivate(method.getModifiers()) && names.contains(method.getName())) {
                taken.append(method.getName()).append(' ');
            }
        }
        return taken.toString();
    }

    private static TreeSet<String> openFields() {
        TreeSet<String> found = new TreeSet<>();
        for (Field field : PictureInlays.class.getDeclaredFields()) {
            if (!Modifier.isPrivate(field.getModifiers())) {
                found.add(field.getName());
            }
        }
        return found;
    }

    private static TreeSet<String> constructors() {
        TreeSet<String> found = new TreeSet<>();
        for (Constructor<?> constructor : PictureInlays.class.getDeclaredConstructors()) {
            found.add(constructor.toString());
        }
        return found;
    }
}
