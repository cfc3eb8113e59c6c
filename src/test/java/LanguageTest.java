import java.io.IOException;
import java.lang.reflect.Executable;
import java.lang.reflect.Field;
import java.lang.reflect.Modifier;
import java.nio.file.Files;
import java.nio.file.Path;
import java.util.ArrayList;
import java.util.Arrays;
import java.util.HashSet;
import java.util.List;
import java.util.Set;
import java.util.regex.Matcher;
import java.util.regex.Pattern;

/** The rules of LANGUAGE.md that can be seen in the source's words or by reflection (FaceTest has rule 1). */
public final class LanguageTest {
    private static final Path SOURCE = Path.of("src/main/java/LetteredRock.java");
    private static final Pattern WORDS_RULED_OUT = Pattern.compile(
            "\\b(throw|throws|try|catch|finally|synchronized|assert|package|native|volatile|transient|protected)\\b"
                    + "|->|::|\\bfor\\s*\\(\\s*;|\\bwhile\\s*\\(\\s*true");
    private static final Set<String> LIBRARY_CLASSES = Set.of("Arrays", "System", "Math", "Integer", "Long");
    private static final Set<String> ARRAY_CALLS = Set.of("fill", "copyOf", "copyOfRange");
    private static final Check check = new Check();

    public static void main(String[] args) throws IOException {
        String code = withoutComments(Files.readString(SOURCE));
        imports(code);
        wordsRuledOut(code);
        libraryCalls(code);
        staticFields();
        sizes();
        methodLengths(code);
        check.end();
    }

    private static String withoutComments(String source) {
        return source.replaceAll("(?s)/\\*.*?\\*/", "").replaceAll("//[^\n]*", "");
    }

    private static void imports(String code) {
        Matcher found = Pattern.compile("import\\s+([^;]+);").matcher(code);
        Set<String> free = Set.of("java.util.Arrays", "java.util.ArrayList", "java.util.List", "java.util.Iterator");
        while (found.find()) {
            holds("rule 4: import " + found.group(1), free.contains(found.group(1)));
        }
    }

    private static void wordsRuledOut(String code) {
        Matcher found = WORDS_RULED_OUT.matcher(code);
        while (found.find()) {
            holds("rules 2, 6, 9: " + found.group(), false);
        }
    }

    /** Rule 4 lists functions alone, so a library's constants are ruled out too. */
    private static void libraryCalls(String code) {
        Matcher found = Pattern.compile("\\b([A-Z]\\w*)\\.(\\w+)(\\s*\\()?").matcher(code);
        Set<String> ours = new HashSet<>();
        for (Class<?> nested : LetteredRock.class.getDeclaredClasses()) {
            ours.add(nested.getSimpleName());
        }
        while (found.find()) {
            String owner = found.group(1);
            boolean isOurs = ours.contains(owner) || owner.equals("LetteredRock") || isImported(code, found);
            boolean isCall = found.group(3) != null;
            holds("rule 4: " + owner + "." + found.group(2), isOurs || isCall && isListed(owner, found.group(2)));
        }
    }

    private static boolean isImported(String code, Matcher found) {
        int lineStart = code.lastIndexOf('\n', found.start()) + 1;
        return code.startsWith("import ", lineStart);
    }

    private static boolean isListed(String owner, String name) {
        switch (owner) {
            case "Arrays":
                return ARRAY_CALLS.contains(name);
            case "System":
                return name.equals("arraycopy");
            default:
                return LIBRARY_CLASSES.contains(owner) && !name.endsWith("Exact");
        }
    }

    private static List<Class<?>> classes() {
        List<Class<?>> all = new ArrayList<>(Arrays.asList(LetteredRock.class.getDeclaredClasses()));
        all.add(LetteredRock.class);
        return all;
    }

    private static void staticFields() {
        for (Class<?> each : classes()) {
            for (Field field : each.getDeclaredFields()) {
                if (Modifier.isStatic(field.getModifiers())) {
                    holds("rule 5: final is " + field.getName(), Modifier.isFinal(field.getModifiers()));
                }
            }
        }
    }

    private static void sizes() {
        holds("rule 11: at most twelve classes", classes().size() <= 12);
        for (Class<?> each : classes()) {
            int fields = 0;
            for (Field field : each.getDeclaredFields()) {
                fields += Modifier.isStatic(field.getModifiers()) ? 0 : 1;
            }
            holds("rule 11: at most twenty fields has " + each.getName(), fields <= 20);
            List<Executable> bodies = new ArrayList<>(Arrays.asList(each.getDeclaredMethods()));
            bodies.addAll(Arrays.asList(each.getDeclaredConstructors()));
            for (Executable body : bodies) {
                holds("rule 11: at most seven parameters has " + body, body.getParameterCount() <= 7);
            }
        }
    }

    /** A method's body ends at the first closing brace that stands as far in as the line that begins it. */
    private static void methodLengths(String code) {
        String[] lines = code.split("\n");
        for (int start = 0; start < lines.length; start++) {
            if (lines[start].matches(" {4,8}\\S.*\\) \\{") && !lines[start].matches("\\s*(if|for|while|switch|\\}).*")) {
                String end = " ".repeat(lines[start].indexOf(lines[start].trim())) + "}";
                int last = start;
                while (last < lines.length && !lines[last].equals(end)) {
                    last++;
                }
                holds("rule 11: at most sixty lines has" + lines[start], last - start < 60);
            }
        }
    }

    private static void holds(String what, boolean is) {
        check.due(what, is ? 1 : 0, 1);
    }
}
