import java.io.IOException;
import java.lang.reflect.Constructor;
import java.lang.reflect.Executable;
import java.lang.reflect.Field;
import java.lang.reflect.Method;
import java.lang.reflect.Modifier;
import java.nio.file.Files;
import java.nio.file.Path;
import java.util.ArrayList;
import java.util.List;
import java.util.Set;
import java.util.regex.Matcher;
import java.util.regex.Pattern;

/** Those rules of LANGUAGE.md that can be read off the compiled class or its text. */
public final class LanguageTest {
    private static final Path SOURCE = Path.of("src/main/java/StripedKeyVolume.java");

    private static final Set<String> IMPORTS = Set.of(
        "java.util.Arrays", "java.util.ArrayList", "java.util.List", "java.util.Iterator");
    private static final Set<Class<?>> CONSTANTS = Set.of(
        int.class, long.class, boolean.class, char.class, String.class,
        int[].class, long[].class, char[].class, byte[].class);
    // Every object is made once for all calls, so a run of any length stays in its room.
    private static final Set<String> MADE =
        Set.of("disk = new Disk();", "fresh = new int[Disk.SIZE];", "words = new int[SIZE];");

    private static final int CLASSES_AT_MOST = 12;
    private static final int FIELDS_AT_MOST = 20;
    private static final int PARAMETERS_AT_MOST = 7;

    private static final Checks checks = new Checks("LanguageTest");

    public static void main(String[] args) throws IOException {
        List<Class<?>> classes = new ArrayList<>();
        classes.add(StripedKeyVolume.class);
        classes.addAll(List.of(StripedKeyVolume.class.getDeclaredClasses()));
        classesInside(classes);
        for (Class<?> type : classes) {
            fields(type);
            parameters(type);
        }
        text(withoutComments(Files.readString(SOURCE)));
        checks.end();
    }

    private static void classesInside(List<Class<?>> classes) {
        checks.part("rules 1, 2 and 11, classes");
        checks.due("few classes", classes.size() <= CLASSES_AT_MOST, true);
        for (Class<?> type : classes.subList(1, classes.size())) {
            int modifiers = type.getModifiers();
            checks.due(type + " is static", Modifier.isStatic(modifiers), true);
            checks.due(type + " is public", Modifier.isPublic(modifiers), false);
            checks.due(type + " is protected", Modifier.isProtected(modifiers), false);
            checks.due("classes inside " + type, type.getDeclaredClasses().length, 0);
            noNameOfThePublicFace(type);
        }
    }

    private static void noNameOfThePublicFace(Class<?> type) {
        for (Method hidden : type.getDeclaredMethods()) {
            for (Method shown : StripedKeyVolume.class.getMethods()) {
                checks.due(type + "." + hidden.getName() + " bears a public name",
                    hidden.getName().equals(shown.getName()), false);
            }
        }
    }

    private static void fields(Class<?> type) {
        checks.part("rules 5 and 11, fields");
        int ownFields = 0;
        for (Field field : type.getDeclaredFields()) {
            if (Modifier.isStatic(field.getModifiers())) {
                checks.due(field + " is final", Modifier.isFinal(field.getModifiers()), true);
                checks.due(field + " is a constant", CONSTANTS.contains(field.getType()), true);
            } else {
                ownFields++;
            }
        }
        checks.due("few fields in " + type, ownFields <= FIELDS_AT_MOST, true);
    }

    private static void parameters(Class<?> type) {
        checks.part("rule 11, parameters");
        List<Executable> all = new ArrayList<>(List.of(type.getDeclaredMethods()));
        all.addAll(List.<Constructor<?>>of(type.getDeclaredConstructors()));
        for (Executable one : all) {
            checks.due("few parameters of " + one,
                one.getParameterCount() <= PARAMETERS_AT_MOST, true);
        }
    }

    private static void text(String source) {
        checks.part("rules 1, 2, 4, 5 and 6, the text");
        none(source, "\\b(throws?|try|catch|finally|synchronized|assert|volatile|native)\\b");
        none(source, "->|::|@");
        none(source, "\\bpackage\\b");
        none(source, "\\w+Exact\\b");
        none(source, "\\b(equals|hashCode|toString|System|Thread|Random|Object)\\b");
        none(source, "\\bstatic\\s*\\{");
        checks.part("rule 4, the library");
        for (String name : found(source, "(?m)^import\\s+(.*);")) {
            checks.due("import " + name + " is in the list", IMPORTS.contains(name), true);
        }
        checks.part("rule 12, what a run makes");
        for (String line : found(source, "(?m)^\\s*(.*\\bnew\\b.*)$")) {
            checks.due("'" + line + "' is made once", MADE.contains(line), true);
        }
        none(source, "\\b(clone|copyOf|copyOfRange)\\b");
    }

    private static void none(String source, String pattern) {
        for (String text : found(source, "(" + pattern + ")")) {
            checks.due("'" + text + "' stands in the text", true, false);
        }
    }

    private static List<String> found(String source, String pattern) {
        List<String> all = new ArrayList<>();
        Matcher matcher = Pattern.compile(pattern).matcher(source);
        while (matcher.find()) {
            all.add(matcher.group(1));
        }
        return all;
    }

    private static String withoutComments(String source) {
        return source.replaceAll("(?s)/\\*.*?\\*/", "").replaceAll("//.*", "");
    }
}
