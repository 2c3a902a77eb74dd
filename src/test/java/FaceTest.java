import java.io.IOException;
import java.lang.reflect.Constructor;
import java.lang.reflect.Field;
import java.lang.reflect.Method;
import java.lang.reflect.Modifier;
import java.util.Set;
import java.util.TreeSet;

/** The class shows the document's face, and nothing else. */
public final class FaceTest {
    private static final Check CHECK = new Check();

    public static void main(String[] args) throws IOException {
        Class<?> face = PhraseCatalogue.class;
        CHECK.due("public and final", true, () -> face.getModifiers() == (Modifier.PUBLIC | Modifier.FINAL));
        CHECK.due("constructors", 1, () -> face.getDeclaredConstructors().length);
        for (Constructor<?> constructor : face.getDeclaredConstructors()) {
            CHECK.due("constructor", "public PhraseCatalogue()", () -> constructor.toString());
        }
        for (Field field : face.getDeclaredFields()) {
            CHECK.due(field + " is private", true, () -> Modifier.isPrivate(field.getModifiers()));
            CHECK.due(field + " is final if static", true, () -> !Modifier.isStatic(field.getModifiers()) || Modifier.isFinal(field.getModifiers()));
        }
        methods(face);
        CHECK.end();
    }

    private static void methods(Class<?> face) throws IOException {
        Set<String> due = new TreeSet<>(Document.methodsOfTheFace());
        Set<String> shown = new TreeSet<>();
        Set<String> names = new TreeSet<>();
        for (Method method : face.getDeclaredMethods()) {
            if (!Modifier.isPrivate(method.getModifiers())) {
                shown.add(told(method));
                names.add(method.getName());
                CHECK.due(method + " is public", true, () -> method.getModifiers() == Modifier.PUBLIC);
            }
        }
        CHECK.due("how many methods", 19, () -> due.size());
        CHECK.due("methods", due, () -> shown);
        for (Method method : face.getDeclaredMethods()) {
            if (Modifier.isPrivate(method.getModifiers())) {
                CHECK.due(method + " bears a public name", false, () -> names.contains(method.getName()));
            }
        }
    }

    /** As the document writes it, but for the names of the arguments. */
    private static String told(Method method) {
        StringBuilder text = new StringBuilder(method.getReturnType().getName());
        text.append(' ').append(method.getName()).append('(');
        Class<?>[] taken = method.getParameterTypes();
        for (int i = 0; i < taken.length; i++) {
            text.append(i == 0 ? "" : ", ").append(taken[i].getName());
        }
        text.append(')');
        Class<?>[] thrown = method.getExceptionTypes();
        for (int i = 0; i < thrown.length; i++) {
            text.append(i == 0 ? " throws " : ", ").append(thrown[i].getSimpleName());
        }
        return text.toString();
    }
}
