import java.lang.reflect.Constructor;
import java.lang.reflect.Field;
import java.lang.reflect.Method;
import java.lang.reflect.Modifier;
import java.util.Arrays;
import java.util.StringJoiner;
import java.util.TreeSet;

/** The public face is the document's, with no member more. */
public final class FaceTest {
    private static final String STATE = "IllegalStateException";
    private static final String INDEX = "IndexOutOfBoundsException";
    private static final String ARGUMENT = "IllegalArgumentException";

    public static void main(String[] args) {
        TreeSet<String> due = new TreeSet<>(Arrays.asList(
                "boolean pixel(int, int, int, int, int) " + INDEX + " " + ARGUMENT,
                "boolean kind(int, int, int, int) " + INDEX + " " + ARGUMENT,
                "int part(int) " + ARGUMENT,
                "int pieceOf(int, int) " + STATE + " " + INDEX,
                "int piece(int, int) " + STATE + " " + INDEX + " " + ARGUMENT,
                "int joined(int, int) " + STATE + " " + INDEX,
                "int outline(int) " + STATE + " " + INDEX,
                "int corner(int, int, int) " + STATE + " " + INDEX,
                "int left(int, int) " + STATE + " " + INDEX + " " + ARGUMENT,
                "boolean reached(int, int, int) " + STATE + " " + INDEX + " " + ARGUMENT,
                "int order(int) " + STATE + " " + INDEX,
                "int nest(int, int) " + STATE + " " + ARGUMENT,
                "int at(int, int) " + STATE + " " + INDEX,
                "int border(int, int, int) " + INDEX + " " + ARGUMENT,
                "int sorted(int) " + INDEX));
        Check.same("methods that are not private", due, openMethods());
        Check.same("no private method bears a public one's name", "", privateNamesTaken());
        Check.same("fields that are not private", "[NONE]", openFields());
        Check.same("NONE", -1, PictureInlays.NONE);
        Check.same("constructors", "[public PictureInlays(int,int,int)]", constructors());
        int modifiers = PictureInlays.class.getModifiers();
        Check.same("public and final", true, Modifier.isPublic(modifiers) && Modifier.isFinal(modifiers));
        Check.same("inner classes that are public, protected or not static", "[]", openClasses());
        Check.end();
    }

    private static TreeSet<String> openMethods() {
        TreeSet<String> found = new TreeSet<>();
        for (Method method : PictureInlays.class.getDeclaredMethods()) {
            if (!Modifier.isPrivate(method.getModifiers())) {
                StringBuilder text = new StringBuilder();
                text.append(method.getReturnType()).append(' ').append(method.getName());
                text.append(parameters(method));
                for (Class<?> thrown : method.getExceptionTypes()) {
                    text.append(' ').append(thrown.getSimpleName());
                }
                found.add(text.toString());
            }
        }
        return found;
    }

    private static String parameters(Method method) {
        StringJoiner text = new StringJoiner(", ", "(", ")");
        for (Class<?> type : method.getParameterTypes()) {
            text.add(type.getSimpleName());
        }
        return text.toString();
    }

    private static String privateNamesTaken() {
        TreeSet<String> names = new TreeSet<>();
        for (Method method : PictureInlays.class.getMethods()) {
            names.add(method.getName());
        }
        StringBuilder taken = new StringBuilder();
        for (Method method : PictureInlays.class.getDeclaredMethods()) {
            if (Modifier.isPrivate(method.getModifiers()) && names.contains(method.getName())) {
                taken.append(method.getName()).append(' ');
            }
        }
        return taken.toString();
    }

    private static TreeSet<String> openFields() {
        TreeSet<String> found = new TreeSet<>();
        for (Field field : PictureInlays.class.getDeclaredFields()) {
            if (!Modifier.isPrivate(field.getModifiers())) {
                found.add(field.getName());
            }
        }
        return found;
    }

    private static TreeSet<String> openClasses() {
        TreeSet<String> found = new TreeSet<>();
        for (Class<?> inner : PictureInlays.class.getDeclaredClasses()) {
            int modifiers = inner.getModifiers();
            if (Modifier.isPublic(modifiers) || Modifier.isProtected(modifiers) || !Modifier.isStatic(modifiers)) {
                found.add(inner.getSimpleName());
            }
        }
        return found;
    }

    private static TreeSet<String> constructors() {
        TreeSet<String> found = new TreeSet<>();
        for (Constructor<?> constructor : PictureInlays.class.getDeclaredConstructors()) {
            found.add(constructor.toString());
        }
        return found;
    }
}
