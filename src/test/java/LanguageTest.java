import java.lang.reflect.Executable;
import java.lang.reflect.Field;
import java.lang.reflect.Member;
import java.lang.reflect.Method;
import java.lang.reflect.Modifier;
import java.util.ArrayList;
import java.util.List;
import java.util.Set;
import java.util.TreeSet;

/** The rules of ../shared/LANGUAGE.md that reflection can see: parts of 1, 2, 3, 5, 6 and 11. */
public final class LanguageTest {
    private static final Set<Class<?>> STATIC_TYPES = Set.of(int.class, long.class, boolean.class, char.class,
        String.class, int[].class, long[].class, char[].class, byte[].class);
    private static final Set<Class<?>> NUMBERS = Set.of(int.class, long.class, short.class, byte.class, char.class,
        boolean.class);

    public static void main(String[] args) {
        List<Class<?>> own = ownClasses(FieldRows.class);
        Due.holds("rule 11: at most twelve classes", own.size() <= 12);
        for (Class<?> type : own) {
            fields(type, own);
            parameters(type);
        }
        classesInside(own);
        namesOfPrivateMethods();
        Due.end();
    }

    private static List<Class<?>> ownClasses(Class<?> outer) {
        List<Class<?>> found = new ArrayList<>();
        found.add(outer);
        for (Class<?> inner : outer.getDeclaredClasses()) {
            found.addAll(ownClasses(inner));
        }
        return found;
    }

    private static void classesInside(List<Class<?>> own) {
        for (Class<?> type : own) {
            if (type != FieldRows.class) {
                int seen = type.getModifiers();
                Due.holds("rule 1: " + type + " is private or package-visible and static",
                    Modifier.isStatic(seen) && !Modifier.isPublic(seen) && !Modifier.isProtected(seen));
            }
        }
    }

    private static void fields(Class<?> type, List<Class<?>> own) {
        int ofAnObject = 0;
        for (Field field : type.getDeclaredFields()) {
            if (Modifier.isStatic(field.getModifiers())) {
                Due.holds("rule 5: " + field + " is final", Modifier.isFinal(field.getModifiers()));
                Due.holds("rule 5: the type of " + field, STATIC_TYPES.contains(field.getType()));
            } else {
                ofAnObject++;
                Due.holds("rule 3: the type of " + field, isOwnOrNumber(field.getType(), own));
            }
        }
        Due.holds("rule 11: at most twenty fields in " + type, ofAnObject <= 20);
    }

    // The class needs no texts and no lists; if it ever does, this is to be widened to what rule 3 allows.
    private static boolean isOwnOrNumber(Class<?> type, List<Class<?>> own) {
        Class<?> held = type.isArray() ? type.getComponentType() : type;
        return NUMBERS.contains(held) || own.contains(held);
    }

    private static void parameters(Class<?> type) {
        List<Executable> all = new ArrayList<>(List.of(type.getDeclaredMethods()));
        all.addAll(List.of(type.getDeclaredConstructors()));
        for (Executable one : all) {
            Due.holds("rule 11: at most seven parameters in " + one, one.getParameterCount() <= 7);
            Due.holds("rule 6: nothing is declared as thrown by " + one, one.getExceptionTypes().length == 0);
            Due.holds("rule 2: " + one + " is written, not made for a lambda", !isForLambda(one));
        }
    }

    private static boolean isForLambda(Member member) {
        return member.isSynthetic() && member.getName().startsWith("lambda$");
    }

    private static void namesOfPrivateMethods() {
        Set<String> shown = new TreeSet<>();
        for (Method method : FieldRows.class.getDeclaredMethods()) {
            if (Modifier.isPublic(method.getModifiers())) {
                shown.add(method.getName());
            }
        }
        for (Method method : FieldRows.class.getDeclaredMethods()) {
            if (Modifier.isPrivate(method.getModifiers())) {
                Due.holds("rule 1: " + method.getName() + " is no public name", !shown.contains(method.getName()));
            }
        }
    }
}
