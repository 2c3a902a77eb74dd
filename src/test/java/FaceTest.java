import java.lang.reflect.Constructor;
import java.lang.reflect.Field;
import java.lang.reflect.Method;
import java.lang.reflect.Modifier;
import java.util.Set;
import java.util.TreeSet;

/** The class shows the document's face, and nothing else. */
public final class FaceTest {
    private static final String INDEX = " throws IndexOutOfBoundsException";
    private static final String ARGUMENT = INDEX + " IllegalArgumentException";
    private static final String STATE = INDEX + " IllegalStateException";
    private static final Check CHECK = new Check();

    public static void main(String[] args) {
        Class<?> face = PhraseCatalogue.class;
        CHECK.due("public and final", true, () -> face.getModifiers() == (Modifier.PUBLIC | Modifier.FINAL));
        CHECK.due("constructors", 1, () -> face.getDeclaredConstructors().length);
        for (Constructor<?> constructor : face.getDeclaredConstructors()) {
            CHECK.due("constructor", "public PhraseCatalogue()", () -> constructor.toString());
        }
        for (Field field : face.getDeclaredFields()) {
            CHECK.due(field + " is private", true, () -> Modifier.isPrivate(field.getModifiers()));
            CHECK.due(field + " is final if static", true, () -> !Modifier.isStatic(field.getModifiers()) || Modifier.isFinal(field.getModifiers()));
        }
        methods(face);
        CHECK.end();
    }

    private static void methods(Class<?> face) {
        Set<String> due = new TreeSet<>(Set.of(
            "int setFallback 2" + ARGUMENT, "void setNumbers 3" + ARGUMENT,
            "int sign 1 throws IllegalArgumentException IllegalStateException",
            "int set 5" + STATE, "int remove 4" + STATE, "int draft 0", "int kindOf 2" + ARGUMENT,
            "int forms 2" + INDEX, "int version 1" + INDEX, "int staleBy 2" + INDEX, "int missing 1" + INDEX,
            "boolean fits 4" + INDEX, "int toldBy 4" + ARGUMENT, "int toldByLooking 4" + ARGUMENT,
            "int toldForm 4" + ARGUMENT, "int toldSign 5" + ARGUMENT, "int pairs 0",
            "int nearDistance 4" + INDEX, "int nearSign 5" + INDEX));
        Set<String> shown = new TreeSet<>();
        Set<String> names = new TreeSet<>();
        for (Method method : face.getDeclaredMethods()) {
            if (!Modifier.isPrivate(method.getModifiers())) {
                shown.add(told(method));
                names.add(method.getName());
                CHECK.due(method + " is public", true, () -> method.getModifiers() == Modifier.PUBLIC);
            }
        }
        CHECK.due("methods", due, () -> shown);
        for (Method method : face.getDeclaredMethods()) {
            if (Modifier.isPrivate(method.getModifiers())) {
                CHECK.due(method + " bears a public name", false, () -> names.contains(method.getName()));
            }
        }
    }

    private static String told(Method method) {
        StringBuilder text = new StringBuilder();
        text.append(method.getReturnType().getName()).append(' ').append(method.getName());
        text.append(' ').append(method.getParameterCount());
        Class<?>[] thrown = method.getExceptionTypes();
        for (int i = 0; i < thrown.length; i++) {
            text.append(i == 0 ? " throws " : " ").append(thrown[i].getSimpleName());
        }
        return text.toString();
    }
}
