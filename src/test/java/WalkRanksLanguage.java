import java.io.IOException;
import java.lang.reflect.Constructor;
import java.lang.reflect.Field;
import java.lang.reflect.Method;
import java.lang.reflect.Modifier;
import java.nio.file.Files;
import java.nio.file.Path;
import java.util.Arrays;
import java.util.Set;
import java.util.TreeSet;
import java.util.regex.Matcher;
import java.util.regex.Pattern;

/** The face of the class, and what LANGUAGE.md leaves out of its source, whose path is the argument. */
public final class WalkRanksLanguage {
    private static final String[] FACE = {
        "int node()", "int weight(int, int, int)", "int jump(int, int)", "int keep(int, int)", "int clear()",
        "int row(int, int)", "int total(int)", "int closed()", "int closedOf(int)", "int period(int)",
        "long rank(int, int)", "int place(int)", "long reach(int, int, int)", "long hit(int, int, int)",
        "long back(int, int)", "long end(int, int, int)", "long after(int, int, int, int)",
        "long walks(int, int, int)", "int drawn(int, int, int)"};

    /** What the document says ahead of some calls, with the first of them. */
    private static final String[][] HEADINGS = {
        {"---- steps", "row"}, {"---- closed sets, ranks", "closed"}, {"---- where walks come to", "reach"},
        {"---- some steps", "after"}};

    private static final String[] LEFT_OUT = {
        "\\b(throw|throws|try|catch|synchronized|assert|package)\\b", "\\bstatic\\s*\\{", "->", "::", "Exact\\b",
        "\\b(System|Random|Thread|Runtime|Object)\\b", "\\b(hashCode|toString|equals)\\b"};

    private static final int MOST_LINES_OF_METHOD = 60;

    private static int wrong = 0;

    public static void main(String[] args) throws IOException {
        face();
        nestedClasses();
        if (args.length != 1) {
            say("the path of the source is not given");
        } else {
            String source = Files.readString(Path.of(args[0]));
            headings(source);
            String code = withoutComments(source);
            wordsLeftOut(code);
            madeOnlyInFields(code);
            shortMethods(code);
        }
        System.out.println(wrong == 0 ? "face and language are as due" : wrong + " faults");
        if (wrong != 0) {
            System.exit(1);
        }
    }

    private static void say(String fault) {
        wrong++;
        System.out.println(fault);
    }

    private static void face() {
        int modifiers = WalkRanks.class.getModifiers();
        if (!Modifier.isPublic(modifiers) || !Modifier.isFinal(modifiers)) {
            say("rule 1: the class is not public and final");
        }
        Constructor<?>[] constructors = WalkRanks.class.getDeclaredConstructors();
        if (constructors.length != 1 || !Modifier.isPublic(constructors[0].getModifiers())
                || constructors[0].getParameterCount() != 0) {
            say("rule 1: the constructor is not the one of the document");
        }
        for (Field field : WalkRanks.class.getDeclaredFields()) {
            if (!Modifier.isPrivate(field.getModifiers())) {
                say("rule 1: not private: " + field);
            }
        }
        Set<String> open = new TreeSet<>();
        for (Method method : WalkRanks.class.getDeclaredMethods()) {
            if (!Modifier.isPrivate(method.getModifiers())) {
                open.add(written(method));
            }
        }
        if (!open.equals(new TreeSet<>(Arrays.asList(FACE)))) {
            say("rule 1: the methods that are not private: " + open);
        }
    }

    private static String written(Method method) {
        String types = Arrays.toString(method.getParameterTypes()).replace("[", "(").replace("]", ")");
        return method.getReturnType() + " " + method.getName() + types;
    }

    private static void nestedClasses() {
        Set<String> names = new TreeSet<>();
        for (String line : FACE) {
            names.add(line.replaceAll(".* (\\w+)\\(.*", "$1"));
        }
        Class<?>[] inside = WalkRanks.class.getDeclaredClasses();
        if (inside.length > 11) {
            say("rule 11: too many classes");
        }
        for (Class<?> one : inside) {
            if (!Modifier.isStatic(one.getModifiers())) {
                say("rule 2: not static: " + one);
            }
            for (Method method : one.getDeclaredMethods()) {
                if (names.contains(method.getName())) {
                    say("rule 1: bears the name of a public one: " + method);
                }
            }
        }
    }

    private static void headings(String source) {
        for (String[] heading : HEADINGS) {
            String ahead = "\\n    // " + heading[0] + "\\s+public \\w+ " + heading[1] + "\\(";
            if (!Pattern.compile(ahead).matcher(source).find()) {
                say("not ahead of " + heading[1] + ": " + heading[0]);
            }
        }
    }

    private static String withoutComments(String source) {
        return source.replaceAll("(?s)/\\*.*?\\*/", "").replaceAll("//[^\n]*", "");
    }

    private static void wordsLeftOut(String code) {
        for (String word : LEFT_OUT) {
            Matcher matcher = Pattern.compile(word).matcher(code);
            while (matcher.find()) {
                say("LANGUAGE.md leaves out: " + matcher.group());
            }
        }
    }

    /** All calls of a run live in one room: what is made is made with the object. */
    private static void madeOnlyInFields(String code) {
        for (String line : code.split("\n")) {
            boolean field = line.matches(" {4,8}(private|final|private final) [\\w\\[\\]]+ \\w+ = new .*");
            if (line.contains("new ") && !field) {
                say("made outside a field: " + line.trim());
            }
        }
    }

    private static void shortMethods(String code) {
        int length = 0;
        String name = "";
        for (String line : code.split("\n")) {
            length++;
            if (line.matches(" {4,8}[\\w ].*\\) \\{") && !line.matches("\\s+(if|for|while|\\}).*")) {
                name = line.trim();
                length = 0;
            }
            if (line.matches(" {4,8}\\}") && !name.isEmpty() && length > MOST_LINES_OF_METHOD) {
                say("rule 11: " + length + " lines: " + name);
            }
        }
    }
}
