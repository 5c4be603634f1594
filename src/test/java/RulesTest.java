import java.io.IOException;
import java.lang.reflect.Constructor;
import java.lang.reflect.Field;
import java.lang.reflect.Method;
import java.lang.reflect.Modifier;
import java.nio.file.Files;
import java.nio.file.Path;
import java.util.Set;
import java.util.TreeSet;
import java.util.regex.Matcher;
import java.util.regex.Pattern;

/** The face of the class, and those rules of LANGUAGE.md that its text and its members can show. */
public final class RulesTest {
    private static final Check CHECK = new Check("RulesTest");
    private static final Path SOURCE = Path.of("src/main/java/ToadsBefore.java");

    private static final String[] FACE = {
        "int feed(int,long)", "int law()", "int fault()", "int told(int)", "int cells(int,int)", "int greater(int)",
        "int shake(int,int,int)", "int seed(int)", "int run(int)", "int about(int,int)", "int count(int)",
        "int odds(int,int,int,int,int,int)", "int watch(int,int,int,int)", "int rain(int,boolean)",
        "int sign(int,int,int,int)", "int omen(int,int)", "int rate(int,int)", "int window(int,int,int,int)",
        "int chance(int,int)", "int table(int,int,int,int,int)", "int story(int,int,int)",
        "int claim(int,int,int,int,int,int,int)", "int score(int,int)", "int scores()",
        "int town(int,int,int,int,int,int,int,int)", "int bestLine(int,int,int,int,int,int)",
        "int luck(int,int,int)", "int lake(int,int,int,int,int)", "int say(int,int,int)",
        "int judged(int,int,int,int)", "int keep(int)", "int goBack(int)"};

    public static void main(String[] args) throws IOException {
        face();
        members();
        text();
        CHECK.finish();
    }

    private static void face() {
        Set<String> found = new TreeSet<>();
        for (Method method : ToadsBefore.class.getDeclaredMethods()) {
            if (!Modifier.isPrivate(method.getModifiers())) {
                found.add(spelled(method));
            }
        }
        Set<String> due = new TreeSet<>(Set.of(FACE));
        CHECK.holds("the methods are those of the document: " + found, found.equals(due));
        Set<String> constants = new TreeSet<>();
        for (Field field : ToadsBefore.class.getDeclaredFields()) {
            if (!Modifier.isPrivate(field.getModifiers())) {
                constants.add(field.getName() + " " + Modifier.toString(field.getModifiers()) + " " + field.getType());
            }
        }
        Set<String> dueConstants = new TreeSet<>();
        for (String name : new String[] {"NONE", "UNKNOWN", "OUTSIDE", "NOT", "FULL"}) {
            dueConstants.add(name + " public static final int");
        }
        CHECK.holds("the constants are those of the document: " + constants, constants.equals(dueConstants));
        Constructor<?>[] constructors = ToadsBefore.class.getDeclaredConstructors();
        CHECK.due("constructors", constructors.length, 1);
        CHECK.holds("the constructor is public", Modifier.isPublic(constructors[0].getModifiers()));
        CHECK.holds("the class is public and final",
                Modifier.isPublic(ToadsBefore.class.getModifiers()) && Modifier.isFinal(ToadsBefore.class.getModifiers()));
        CHECK.holds("the class has no package", ToadsBefore.class.getPackageName().isEmpty());
    }

    private static String spelled(Method method) {
        StringBuilder text = new StringBuilder(Modifier.isStatic(method.getModifiers()) ? "static " : "");
        text.append(method.getReturnType()).append(' ').append(method.getName()).append('(');
        for (Class<?> type : method.getParameterTypes()) {
            text.append(text.charAt(text.length() - 1) == '(' ? "" : ",").append(type);
        }
        return text.append(')').toString();
    }

    private static void members() {
        Set<String> publicNames = new TreeSet<>();
        for (String line : FACE) {
            publicNames.add(line.substring(4, line.indexOf('(')));
        }
        checkClass(ToadsBefore.class, publicNames);
        Class<?>[] inside = ToadsBefore.class.getDeclaredClasses();
        CHECK.holds("at most twelve classes", inside.length + 1 <= 12);
        for (Class<?> one : inside) {
            CHECK.holds(one + " is static and not public",
                    Modifier.isStatic(one.getModifiers()) && !Modifier.isPublic(one.getModifiers()));
            checkClass(one, publicNames);
        }
    }

    private static void checkClass(Class<?> one, Set<String> publicNames) {
        int fields = 0;
        for (Field field : one.getDeclaredFields()) {
            boolean isStatic = Modifier.isStatic(field.getModifiers());
            fields += isStatic ? 0 : 1;
            CHECK.holds(one + " has no static state: " + field.getName(),
                    !isStatic || Modifier.isFinal(field.getModifiers()));
        }
        CHECK.holds(one + " has at most twenty fields", fields <= 20);
        for (Method method : one.getDeclaredMethods()) {
            boolean isOfFace = one == ToadsBefore.class && !Modifier.isPrivate(method.getModifiers());
            CHECK.holds(one + "." + method.getName() + " bears no public name",
                    isOfFace || !publicNames.contains(method.getName()));
            CHECK.holds(one + "." + method.getName() + " is no lambda", !method.isSynthetic());
            // town has eight parameters in the document itself.
            CHECK.holds(one + "." + method.getName() + " takes at most seven parameters",
                    method.getParameterCount() <= 7 || method.getName().equals("town"));
        }
    }

    private static void text() throws IOException {
        String source = Files.readString(SOURCE);
        String code = source.replaceAll("(?s)/\\*.*?\\*/", "").replaceAll("//[^\n]*", "");
        String[] banned = {"throw", "try", "catch", "synchronized", "assert", "import", "package", "instanceof",
            "Exact", "->", "::", "System.out", "Thread", "Random"};
        for (String word : banned) {
            CHECK.holds("the code has no " + word, !code.contains(word));
        }
        CHECK.holds("signs are of ASCII", source.matches("(?s)[\n -~]*+"));
        Matcher library = Pattern.compile("\\b(Math|Integer|Long|System|Arrays|String)\\.(\\w+)").matcher(code);
        Set<String> allowed = Set.of("Math.max", "Math.min", "Math.abs", "Integer.compare", "System.arraycopy");
        while (library.find()) {
            CHECK.holds("the library's " + library.group() + " is one that stands in the rules",
                    allowed.contains(library.group()));
        }
        methodLengths(code);
    }

    private static void methodLengths(String code) {
        int open = 0;
        int depthOfMethod = -1;
        int length = 0;
        for (String line : code.split("\n")) {
            boolean isHead = line.endsWith("{") && line.contains("(") && !line.matches(" *(if|for|while|switch|\\}).*");
            if (isHead && depthOfMethod < 0) {
                depthOfMethod = open;
                length = 0;
            }
            length++;
            open += line.replaceAll("[^{]", "").length() - line.replaceAll("[^}]", "").length();
            if (open == depthOfMethod) {
                CHECK.holds("a method has at most sixty lines, this one ended: " + line, length <= 60);
                depthOfMethod = -1;
            }
        }
    }
}
