import java.lang.reflect.Constructor;
import java.lang.reflect.Field;
import java.lang.reflect.Method;
import java.lang.reflect.Modifier;
import java.util.Arrays;
import java.util.Set;
import java.util.TreeSet;

/** The public face of the document, whole, and nothing that can be seen beside it. */
public final class FaceTest {
    private static final Set<String> FACE = new TreeSet<>(Arrays.asList(
        "int CUT = -1", "int OFF = -2", "int NO_VOLUME = -3", "int LOCKED = -4",
        "int BAD_ARGUMENT = -5", "int NO_SLOT = -6", "int FULL = -7", "int LAST = -8",
        "int WRONG = -9",
        "StripedKeyVolume()",
        "boolean cut(int)", "int format(int, int, int, int)", "int mount()", "int unlock(int)",
        "int lock()", "int add(int, int)", "int change(int, int, int)", "int revoke(int)",
        "int write(int, int, int)", "long read(int, int)", "int state()", "int slots()",
        "int peek(int)", "int writes()"));

    public static void main(String[] args) throws IllegalAccessException {
        Checks checks = new Checks("FaceTest");
        checks.part("the face");
        Class<?> type = StripedKeyVolume.class;
        checks.due("is public", Modifier.isPublic(type.getModifiers()), true);
        checks.due("is final", Modifier.isFinal(type.getModifiers()), true);
        Set<String> seen = visibleMembers(type, checks);
        for (String member : FACE) {
            checks.due("has " + member, seen.contains(member), true);
        }
        for (String member : seen) {
            checks.due("the document knows " + member, FACE.contains(member), true);
        }
        noPrivateMethodNamedLikeAPublicOne(type, checks);
        checks.end();
    }

    private static Set<String> visibleMembers(Class<?> type, Checks checks)
            throws IllegalAccessException {
        Set<String> seen = new TreeSet<>();
        for (Field field : type.getDeclaredFields()) {
            if (isVisible(field.getModifiers())) {
                checks.due(field.getName() + " is a constant",
                    field.getModifiers(), Modifier.PUBLIC | Modifier.STATIC | Modifier.FINAL);
                seen.add(field.getType() + " " + field.getName() + " = " + field.get(null));
            }
        }
        for (Constructor<?> made : type.getDeclaredConstructors()) {
            if (isVisible(made.getModifiers())) {
                checks.due("the constructor is public", made.getModifiers(), Modifier.PUBLIC);
                seen.add(type.getName() + parameters(made.getParameterTypes()));
            }
        }
        for (Method method : type.getDeclaredMethods()) {
            if (isVisible(method.getModifiers())) {
                checks.due(method.getName() + " is public", method.getModifiers(), Modifier.PUBLIC);
                seen.add(method.getReturnType() + " " + method.getName()
                    + parameters(method.getParameterTypes()));
            }
        }
        return seen;
    }

    private static void noPrivateMethodNamedLikeAPublicOne(Class<?> type, Checks checks) {
        for (Method hidden : type.getDeclaredMethods()) {
            for (Method shown : type.getDeclaredMethods()) {
                boolean clash = Modifier.isPrivate(hidden.getModifiers())
                    && Modifier.isPublic(shown.getModifiers())
                    && hidden.getName().equals(shown.getName());
                checks.due("private " + hidden.getName() + " clashes", clash, false);
            }
        }
    }

    private static boolean isVisible(int modifiers) {
        return !Modifier.isPrivate(modifiers);
    }

    private static String parameters(Class<?>[] types) {
        String text = Arrays.toString(types);
        return "(" + text.substring(1, text.length() - 1) + ")";
    }
}
