import java.lang.reflect.Field;
import java.lang.reflect.Method;
import java.lang.reflect.Modifier;
import java.util.Arrays;
import java.util.Set;
import java.util.TreeSet;

/** The document's public face, and rules 1 and 5 of LANGUAGE.md as far as the compiled class shows them. */
public final class FaceTest {
    private static final Set<String> FACE = new TreeSet<>(Arrays.asList(
        "boolean put[long, int]", "boolean character[int]", "int read[]", "int place[]", "int at[int]",
        "int placeOf[int]", "int kind[int]", "int run[int, int]", "int compare[int, int, int]",
        "long bytes[int]"));

    public static void main(String[] args) {
        Class<?> face = CharDesk.class;
        Check.due("public and final", face.getModifiers(), Modifier.PUBLIC | Modifier.FINAL);
        Check.due("constructors", face.getDeclaredConstructors().length, 1);
        Check.due("public constructors", face.getConstructors().length, 1);
        Check.due("constructor's parameters", face.getDeclaredConstructors()[0].getParameterCount(), 0);
        methods(face);
        fields(face);
        Check.finish();
    }

    private static void methods(Class<?> face) {
        Set<String> open = new TreeSet<>();
        Set<String> openNames = new TreeSet<>();
        for (Method method : face.getDeclaredMethods()) {
            if (!Modifier.isPrivate(method.getModifiers())) {
                open.add(method.getReturnType() + " " + method.getName() + Arrays.toString(method.getParameterTypes()));
                openNames.add(method.getName());
                Check.due(method.getName() + " is public alone", method.getModifiers(), Modifier.PUBLIC);
            }
        }
        Check.due("methods are " + open, open.equals(FACE), true);
        for (Method method : face.getDeclaredMethods()) {
            if (Modifier.isPrivate(method.getModifiers())) {
                Check.due("private " + method.getName() + " has a public name",
                    openNames.contains(method.getName()), false);
            }
        }
    }

    private static void fields(Class<?> face) {
        for (Field field : face.getDeclaredFields()) {
            int modifiers = field.getModifiers();
            Check.due(field.getName() + " is private", Modifier.isPrivate(modifiers), true);
            if (Modifier.isStatic(modifiers)) {
                Check.due(field.getName() + " is final", Modifier.isFinal(modifiers), true);
            }
        }
    }
}
