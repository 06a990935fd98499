import java.io.IOException;
import java.lang.reflect.InvocationTargetException;
import java.lang.reflect.Method;
import java.lang.reflect.Modifier;
import java.nio.file.Files;
import java.nio.file.Path;
import java.util.List;
import java.util.TreeMap;
import java.util.TreeSet;
import java.util.regex.Matcher;
import java.util.regex.Pattern;

/** Calls what README.md's example calls, line by line, and holds the answers against those in its comments. */
public final class ReadmeTest {
    private static final Pattern MAKING =
            Pattern.compile("PictureInlays inlay = new PictureInlays\\((\\d+), (\\d+), (\\d+)\\);  // .*");
    private static final Pattern CALL =
            Pattern.compile("inlay\\.(\\w+)\\(([-\\d, ]+)\\);\\s+// (-?\\w+)(?:[: ].*)?");

    private static final TreeMap<String, Method> CALLS = new TreeMap<>();
    private static final TreeSet<String> SHOWN = new TreeSet<>();

    public static void main(String[] args) throws IOException {
        for (Method method : PictureInlays.class.getDeclaredMethods()) {
            if (Modifier.isPublic(method.getModifiers())) {
                CALLS.put(method.getName(), method);
            }
        }
        example(Files.readAllLines(Path.of("README.md")));
        Check.same("calls that the example shows", CALLS.keySet(), SHOWN);
        Check.end();
    }

    private static void example(List<String> lines) {
        PictureInlays inlay = null;
        int begin = lines.indexOf("```java") + 1;
        for (int i = begin; begin > 0 && i < lines.size() && !lines.get(i).equals("```"); i++) {
            Matcher making = MAKING.matcher(lines.get(i));
            Matcher call = CALL.matcher(lines.get(i));
            if (making.matches()) {
                inlay = new PictureInlays(number(making.group(1)), number(making.group(2)), number(making.group(3)));
            } else if (inlay != null && call.matches() && CALLS.containsKey(call.group(1))) {
                line(inlay, lines.get(i), call);
            } else {
                Check.same("a line of the example", "", lines.get(i));
            }
        }
    }

    private static void line(PictureInlays inlay, String line, Matcher call) {
        SHOWN.add(call.group(1));
        String[] texts = call.group(2).split(", ");
        Object[] numbers = new Object[texts.length];
        for (int i = 0; i < texts.length; i++) {
            numbers[i] = number(texts[i]);
        }
        Check.same(line, call.group(3), answer(inlay, CALLS.get(call.group(1)), numbers));
    }

    private static String answer(PictureInlays inlay, Method method, Object[] numbers) {
        try {
            return String.valueOf(method.invoke(inlay, numbers));
        } catch (InvocationTargetException e) {
            return e.getCause().getClass().getSimpleName();
        } catch (IllegalAccessException | IllegalArgumentException e) {
            return "no such call";
        }
    }

    private static int number(String text) {
        return Integer.parseInt(text);
    }
}
