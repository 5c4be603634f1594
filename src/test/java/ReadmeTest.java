import java.io.IOException;
import java.lang.reflect.Method;
import java.nio.file.Files;
import java.nio.file.Path;
import java.util.Set;
import java.util.TreeSet;
import java.util.regex.Matcher;
import java.util.regex.Pattern;

/** The lines that README.md shows: each call answers what stands behind it. */
public final class ReadmeTest {
    private static final Check CHECK = new Check("ReadmeTest");
    private static final Path README = Path.of("README.md");
    private static final Pattern CALL = Pattern.compile("land\\.(\\w+)\\((.*?)\\); *// (-?\\d+|[A-Z]+)\\b.*");
    private static final Set<String> HEADS = Set.of("law", "feed", "shake", "watch", "claim", "say", "keep");

    public static void main(String[] args) throws ReflectiveOperationException, IOException {
        ToadsBefore land = new ToadsBefore();
        Set<String> shown = new TreeSet<>();
        for (String line : Files.readAllLines(README)) {
            if (line.startsWith("land.")) {
                shown.add(tryLine(land, line));
            }
        }
        CHECK.holds("each part is shown, of " + shown, shown.containsAll(HEADS));
        CHECK.finish();
    }

    private static String tryLine(ToadsBefore land, String line) throws ReflectiveOperationException {
        Matcher call = CALL.matcher(line);
        if (!call.matches()) {
            CHECK.holds("an answer stands behind " + line, false);
            return "";
        }
        int got = answer(land, call.group(1), call.group(2));
        CHECK.due(line, got, number(call.group(3)));
        return call.group(1);
    }

    private static int answer(ToadsBefore land, String name, String words) throws ReflectiveOperationException {
        Method method = methodNamed(name);
        Class<?>[] types = method.getParameterTypes();
        String[] parts = words.isEmpty() ? new String[0] : words.split(", *");
        Object[] values = new Object[parts.length];
        for (int i = 0; i < parts.length; i++) {
            values[i] = value(types[i], parts[i]);
        }
        return (int) method.invoke(land, values);
    }

    private static Method methodNamed(String name) throws NoSuchMethodException {
        for (Method method : ToadsBefore.class.getDeclaredMethods()) {
            if (method.getName().equals(name)) {
                return method;
            }
        }
        throw new NoSuchMethodException(name);
    }

    private static Object value(Class<?> type, String word) {
        if (type == boolean.class) {
            return Boolean.valueOf(word);
        }
        return type == long.class ? (Object) Long.decode(word.replace("L", "")) : Integer.decode(word);
    }

    private static int number(String word) throws ReflectiveOperationException {
        boolean isName = Character.isLetter(word.charAt(0));
        return isName ? ToadsBefore.class.getField(word).getInt(null) : Integer.parseInt(word);
    }
}
