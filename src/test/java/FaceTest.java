import java.lang.reflect.Constructor;
import java.lang.reflect.Field;
import java.lang.reflect.Method;
import java.lang.reflect.Modifier;
import java.util.Set;
import java.util.TreeSet;

/** The public face: every member that the document names, and no other that is not private. */
public final class FaceTest {
    private static final Set<String> METHODS = Set.of(
        "int lay(int int int int int)", "int poke(int int int)", "int put(int int int int)",
        "long get(int int int)", "int fault(int)", "int copy(int)", "int differs()", "int groups()",
        "int where(int int)", "int record(int boolean)");

    public static void main(String[] args) {
        Class<?> face = FieldRows.class;
        Due.holds("the class is public", Modifier.isPublic(face.getModifiers()));
        Due.holds("the class is final", Modifier.isFinal(face.getModifiers()));
        methods(face);
        constants(face);
        Constructor<?>[] made = face.getDeclaredConstructors();
        Due.holds("one public constructor without parameters",
            made.length == 1 && made[0].getParameterCount() == 0 && Modifier.isPublic(made[0].getModifiers()));
        Due.is("BAD", FieldRows.BAD, -1);
        Due.is("RIGHT", FieldRows.RIGHT, -2);
        Due.end();
    }

    private static void methods(Class<?> face) {
        Set<String> seen = new TreeSet<>();
        for (Method method : face.getDeclaredMethods()) {
            if (Modifier.isPrivate(method.getModifiers())) {
                continue;
            }
            StringBuilder parameters = new StringBuilder();
            for (Class<?> type : method.getParameterTypes()) {
                parameters.append(parameters.length() == 0 ? "" : " ").append(type.getName());
            }
            seen.add(method.getReturnType().getName() + " " + method.getName() + "(" + parameters + ")");
            Due.holds(method + " is public", Modifier.isPublic(method.getModifiers()));
            Due.holds(method + " is not static", !Modifier.isStatic(method.getModifiers()));
        }
        Due.holds("the methods are the document's: " + seen, seen.equals(METHODS));
    }

    private static void constants(Class<?> face) {
        Set<String> seen = new TreeSet<>();
        for (Field field : face.getDeclaredFields()) {
            if (!Modifier.isPrivate(field.getModifiers())) {
                seen.add(field.getName());
            }
            if (Modifier.isStatic(field.getModifiers())) {
                Due.holds(field + " is final", Modifier.isFinal(field.getModifiers()));
            }
        }
        Due.holds("the constants are the document's: " + seen, seen.equals(Set.of("BAD", "RIGHT")));
    }
}
