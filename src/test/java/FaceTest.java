import java.io.IOException;
import java.lang.reflect.Constructor;
import java.lang.reflect.Field;
import java.lang.reflect.Method;
import java.lang.reflect.Modifier;
import java.nio.file.Files;
import java.nio.file.Path;
import java.util.Set;
import java.util.TreeSet;
import java.util.regex.Matcher;
import java.util.regex.Pattern;

/** The public face is that of the document, and the file keeps to what of LANGUAGE.md can be read off it. */
public final class FaceTest {
    private static final Checks CHECKS = new Checks();
    private static final String[] FACE = {
        "int status()", "long ways(long)", "int layout(long)", "long best(long,long,int)", "int place(int)",
        "int stands(int)", "int shows(int)", "int worth(long)", "boolean opening(int)", "boolean deal(int,int,int)",
        "long hand(int)", "long table()", "int tell(int)", "int player(int,int)", "int lay(long)", "int end()",
        "int robot(int)"};
    private static final String[] FORBIDDEN = {
        "throw", "throws", "try", "catch", "finally", "synchronized", "assert", "package", "protected",
        "volatile", "transient", "native", "hashCode", "toString", "System", "Object", "Random", "Thread", "\\w+Exact"};

    public static void main(String[] args) throws IOException {
        members();
        nested();
        source();
        CHECKS.finish();
    }

    private static void members() {
        Class<?> face = RummyTable.class;
        CHECKS.due("public and final", Modifier.PUBLIC | Modifier.FINAL, face.getModifiers());
        Set<String> found = new TreeSet<>();
        Set<String> names = new TreeSet<>();
        for (Method method : face.getDeclaredMethods()) {
            if (Modifier.isPublic(method.getModifiers())) {
                CHECKS.due(method + " is public alone", Modifier.PUBLIC, method.getModifiers());
                found.add(written(method));
                names.add(method.getName());
            } else {
                CHECKS.due(method + " is private", true, Modifier.isPrivate(method.getModifiers()));
            }
        }
        CHECKS.due("face " + found, true, found.equals(new TreeSet<>(Set.of(FACE))));
        for (Class<?> inside : face.getDeclaredClasses()) {
            for (Method method : inside.getDeclaredMethods()) {
                CHECKS.due(method + " bears no public name", false, names.contains(method.getName()));
            }
        }
        for (Method method : face.getDeclaredMethods()) {
            boolean hidden = !Modifier.isPublic(method.getModifiers());
            CHECKS.due(method + " bears no public name", false, hidden && names.contains(method.getName()));
        }
        Constructor<?>[] made = face.getDeclaredConstructors();
        CHECKS.due("constructors", 1, made.length);
        CHECKS.due("its parameters", 0, made[0].getParameterCount());
        CHECKS.due("it is public", Modifier.PUBLIC, made[0].getModifiers());
        CHECKS.due("no class above it", true, face.getSuperclass() == Object.class);
        CHECKS.due("no interface", 0, face.getInterfaces().length);
        constants();
    }

    private static void constants() {
        int constants = 0;
        int fields = 0;
        for (Field field : RummyTable.class.getDeclaredFields()) {
            if (Modifier.isPublic(field.getModifiers())) {
                constants++;
                CHECKS.due(field + " is NONE", true, field.toString().equals(
                        "public static final int RummyTable.NONE"));
            } else {
                CHECKS.due(field + " is private", true, Modifier.isPrivate(field.getModifiers()));
            }
            fields += Modifier.isStatic(field.getModifiers()) ? 0 : 1;
        }
        CHECKS.due("public constants", 1, constants);
        CHECKS.due("NONE", -1, RummyTable.NONE);
        CHECKS.due("at most 20 fields", true, fields <= 20);
    }

    private static String written(Method method) {
        StringBuilder text = new StringBuilder();
        text.append(method.getReturnType()).append(' ').append(method.getName()).append('(');
        for (Class<?> type : method.getParameterTypes()) {
            text.append(text.charAt(text.length() - 1) == '(' ? "" : ",").append(type);
        }
        return text.append(')').toString();
    }

    private static void nested() {
        Class<?>[] inside = RummyTable.class.getDeclaredClasses();
        CHECKS.due("at most twelve classes", true, inside.length < 12);
        for (Class<?> one : inside) {
            CHECKS.due(one + " is static", true, Modifier.isStatic(one.getModifiers()));
            int fields = 0;
            for (Field field : one.getDeclaredFields()) {
                boolean constant = Modifier.isStatic(field.getModifiers());
                CHECKS.due(field + " is final if static", true, !constant || Modifier.isFinal(field.getModifiers()));
                fields += constant ? 0 : 1;
            }
            CHECKS.due(one + " has at most 20 fields", true, fields <= 20);
            for (Method method : one.getDeclaredMethods()) {
                CHECKS.due(method + " takes at most 7", true, method.getParameterCount() <= 7);
            }
        }
    }

    private static void source() throws IOException {
        String text = Files.readString(Path.of("src/main/java/RummyTable.java"));
        String code = text.replaceAll("(?s)/\\*.*?\\*/", " ").replaceAll("//[^\n]*", " ");
        for (String word : FORBIDDEN) {
            CHECKS.due("'" + word + "' in the file", false, Pattern.compile("\\b" + word + "\\b").matcher(code).find());
        }
        CHECKS.due("no lambda, no method reference", false, code.contains("->") || code.contains("::"));
        methodsAreShort(text);
        CHECKS.due("plain signs", true, text.chars().allMatch(c -> c == '\n' || c >= 32 && c < 127));
        for (String line : code.split("\n")) {
            if (line.startsWith("import ")) {
                CHECKS.due(line, true, line.equals("import java.util.Arrays;"));
            }
        }
    }

    /** A method begins at 4 signs, or at 8 inside a nested class, and ends with a brace below its beginning. */
    private static void methodsAreShort(String text) {
        Pattern begins = Pattern.compile("( {4}| {8})(?!if|for|while|switch|\\}|\\w+ class)\\w.*\\) \\{");
        String[] lines = text.split("\n");
        int found = 0;
        for (int i = 0; i < lines.length; i++) {
            Matcher matcher = begins.matcher(lines[i]);
            if (matcher.matches()) {
                found++;
                int last = i;
                while (last < lines.length && !lines[last].equals(matcher.group(1) + "}")) {
                    last++;
                }
                CHECKS.due(lines[i].trim() + " is short", true, last - i < 60);
            }
        }
        CHECKS.due("methods were found", true, found > FACE.length);
    }
}
