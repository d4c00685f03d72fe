import java.lang.reflect.Constructor;
import java.lang.reflect.Field;
import java.lang.reflect.Method;
import java.lang.reflect.Modifier;
import java.util.Arrays;
import java.util.Set;
import java.util.TreeSet;

/** The public face: just what the document lists, and nothing else that is not private. */
public final class FaceTest {
    private static final String INDEX = " IndexOutOfBoundsException";
    private static final String ARGUMENT = " IllegalArgumentException";
    private static final String STATE = " IllegalStateException";

    private static final Check check = new Check();

    public static void main(String[] args) {
        check.due("the class is public and final", true,
                Modifier.isPublic(Springleaf.class.getModifiers()) && Modifier.isFinal(Springleaf.class.getModifiers()));
        check.compare("the methods", new TreeSet<>(Arrays.asList(
                "int fold(int, int, int)" + INDEX + ARGUMENT + STATE,
                "int part(int, int, int, int, int, boolean)" + INDEX + ARGUMENT + STATE,
                "int angle(int, int)" + INDEX + ARGUMENT,
                "int angleAnew(int, int)" + INDEX + ARGUMENT,
                "int where(int, int, int)" + INDEX + ARGUMENT,
                "boolean meet(int, int, int)" + INDEX + ARGUMENT,
                "int test()",
                "int sheets()",
                "int laid(int, int)" + INDEX + ARGUMENT,
                "int glue(int)" + INDEX + STATE,
                "int unglue()" + STATE,
                "int glued(int)" + INDEX,
                "int resize(int, int)" + INDEX + ARGUMENT,
                "boolean isBound()",
                "char tells(int, int)" + INDEX)).toString(), methods().toString());
        check.compare("the constants and the constructor", "[NONE, Springleaf()]", others().toString());
        check.end();
    }

    private static Set<String> methods() {
        Set<String> found = new TreeSet<>();
        for (Method method : Springleaf.class.getDeclaredMethods()) {
            if (!Modifier.isPrivate(method.getModifiers())) {
                found.add(method.getReturnType().getSimpleName() + " " + method.getName()
                        + names(method.getParameterTypes(), "(", ", ", ")")
                        + names(method.getExceptionTypes(), " ", " ", "").stripTrailing());
            }
        }
        return found;
    }

    private static Set<String> others() {
        Set<String> found = new TreeSet<>();
        for (Field field : Springleaf.class.getDeclaredFields()) {
            if (!Modifier.isPrivate(field.getModifiers())) {
                found.add(field.getName());
            }
        }
        for (Constructor<?> constructor : Springleaf.class.getDeclaredConstructors()) {
            found.add(constructor.getName() + names(constructor.getParameterTypes(), "(", ", ", ")"));
        }
        return found;
    }

    private static String names(Class<?>[] types, String before, String between, String behind) {
        StringBuilder text = new StringBuilder(before);
        for (int i = 0; i < types.length; i++) {
            text.append(i == 0 ? "" : between).append(types[i].getSimpleName());
        }
        return text.append(behind).toString();
    }
}
