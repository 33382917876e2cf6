import java.io.IOException;
import java.lang.reflect.Method;
import java.lang.reflect.Modifier;
import java.nio.file.Files;
import java.nio.file.Path;
import java.util.Set;
import java.util.TreeSet;
import java.util.regex.Matcher;
import java.util.regex.Pattern;

/** Each call in README.md has the answer that stands behind it, and each call of the face stands there. */
public final class ReadmeTest {
    private static final Checks CHECKS = new Checks();
    private static final Pattern CALL = Pattern.compile("x\\.(\\w+)\\((.*?)\\); +// (-?\\w+)\\b.*");

    public static void main(String[] args) throws IOException, ReflectiveOperationException {
        Set<String> shown = new TreeSet<>();
        RummyTable x = null;
        boolean inCode = false;
        for (String line : Files.readAllLines(Path.of("README.md"))) {
            if (line.startsWith("```")) {
                inCode = line.equals("```java");
            } else if (inCode && line.equals("RummyTable x = new RummyTable();")) {
                x = new RummyTable();
            } else if (inCode) {
                shown.add(ask(x, line));
            }
        }
        Set<String> face = new TreeSet<>();
        for (Method method : RummyTable.class.getDeclaredMethods()) {
            if (Modifier.isPublic(method.getModifiers())) {
                face.add(method.getName());
            }
        }
        CHECKS.due("all calls of the face are in README.md: " + shown, true, shown.equals(face));
        CHECKS.finish();
    }

    /** The name of the call in a line of code. */
    private static String ask(RummyTable x, String line) throws ReflectiveOperationException {
        Matcher call = CALL.matcher(line);
        if (!call.matches()) {
            CHECKS.due("README.md: '" + line + "' is a call with its answer", true, false);
            return line;
        }
        String[] words = call.group(2).isEmpty() ? new String[0] : call.group(2).split(", ");
        for (Method method : RummyTable.class.getDeclaredMethods()) {
            if (Modifier.isPublic(method.getModifiers()) && method.getName().equals(call.group(1))) {
                Object answer = method.invoke(x, numbers(words, method.getParameterTypes()));
                CHECKS.due("README.md: " + line, written(call.group(3)), written(answer.toString()));
            }
        }
        return call.group(1);
    }

    private static Object[] numbers(String[] words, Class<?>[] types) {
        Object[] numbers = new Object[types.length];
        for (int i = 0; i < types.length; i++) {
            long number = written(words[i].replace("L", ""));
            numbers[i] = types[i] == int.class ? (Object) Math.toIntExact(number) : (Object) number;
        }
        return numbers;
    }

    private static long written(String word) {
        return word.equals("true") ? 1 : word.equals("false") ? 0 : Long.decode(word);
    }
}
