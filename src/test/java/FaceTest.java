import java.lang.reflect.Constructor;
import java.lang.reflect.Field;
import java.lang.reflect.Method;
import java.lang.reflect.Modifier;
import java.util.Arrays;
import java.util.HashSet;
import java.util.Set;
import java.util.TreeSet;

/** The public face: the document's members, and none beside them that is not private. */
public final class FaceTest {
    private static final String[] METHODS = {
        "int letter(int,int,int)", "int strip(int,int,int)", "int about(int,int)", "int spell(int,int)",
        "int wipe(int)", "int slots(int)", "int gap(int)", "int wide(int)", "int longest()",
        "int cut(int,int,int,int)", "int readings(int)", "int reading(int,int)", "int words(int)",
        "int order(int,int)", "int late(int)", "int spoiled(int)", "int set(int,int)", "int lump(int,int,int,int)",
        "int made(int,int)", "int trace(int)", "int recall(int,int,int)", "int foretold(int)",
        "int damp(int,boolean)", "int make(int,int)", "int stock(int,int,int,int)", "int ahead(int,int,int)",
        "int sheet(int,int,int)", "int lose(int)", "int put(int,int,int,int)", "int get(int,int,int)",
        "int copy(int,int,int,int,int)", "int count(int)", "long digest()"};
    private static final Check check = new Check();

    public static void main(String[] args) {
        constants();
        methods();
        constructors();
        nestedMethodNames();
        check.end();
    }

    private static void constants() {
        check.due("NONE", LetteredRock.NONE, -1);
        check.due("BAD", LetteredRock.BAD, -2);
        check.due("NOT", LetteredRock.NOT, -3);
        check.due("FULL", LetteredRock.FULL, -4);
        Set<String> open = new TreeSet<>();
        for (Field field : LetteredRock.class.getDeclaredFields()) {
            if (!Modifier.isPrivate(field.getModifiers())) {
                open.add(field.getName());
            }
        }
        same("fields", open, new TreeSet<>(Arrays.asList("NONE", "BAD", "NOT", "FULL")));
    }

    private static void methods() {
        Set<String> open = new TreeSet<>();
        for (Method method : LetteredRock.class.getDeclaredMethods()) {
            int modifiers = method.getModifiers();
            if (!Modifier.isPrivate(modifiers) && !method.isSynthetic()) {
                open.add(signature(method));
                check.due("plainly public: " + method.getName(), modifiers, Modifier.PUBLIC);
            }
        }
        same("methods", open, new TreeSet<>(Arrays.asList(METHODS)));
    }

    private static String signature(Method method) {
        StringBuilder text = new StringBuilder();
        for (Class<?> type : method.getParameterTypes()) {
            text.append(text.length() == 0 ? "" : ",").append(type.getSimpleName());
        }
        return method.getReturnType().getSimpleName() + " " + method.getName() + "(" + text + ")";
    }

    private static void constructors() {
        Constructor<?>[] all = LetteredRock.class.getDeclaredConstructors();
        check.due("constructors", all.length, 1);
        check.due("a public constructor", all[0].getModifiers(), Modifier.PUBLIC);
        check.due("without parameters", all[0].getParameterCount(), 0);
        check.due("a public final class", LetteredRock.class.getModifiers(), Modifier.PUBLIC | Modifier.FINAL);
    }

    /** LANGUAGE.md, rule 1: no method of our own bears the name of a public one. */
    private static void nestedMethodNames() {
        Set<String> names = new HashSet<>();
        for (String signature : METHODS) {
            names.add(signature.substring(signature.indexOf(' ') + 1, signature.indexOf('(')));
        }
        for (Class<?> nested : LetteredRock.class.getDeclaredClasses()) {
            check.due("static: " + nested.getName(), nested.getModifiers() & Modifier.STATIC, Modifier.STATIC);
            for (Method method : nested.getDeclaredMethods()) {
                check.due("own name: " + method.getName(), names.contains(method.getName()) ? 1 : 0, 0);
            }
        }
        for (Method method : LetteredRock.class.getDeclaredMethods()) {
            boolean clash = Modifier.isPrivate(method.getModifiers()) && names.contains(method.getName());
            check.due("own name: " + method.getName(), clash ? 1 : 0, 0);
        }
    }

    private static void same(String what, Set<String> got, Set<String> want) {
        if (!got.equals(want)) {
            System.out.println(what + " are " + got + ", due are " + want);
        }
        check.due(what, got.equals(want) ? 1 : 0, 1);
    }
}
