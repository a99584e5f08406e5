import java.lang.reflect.Constructor;
import java.lang.reflect.Field;
import java.lang.reflect.Member;
import java.lang.reflect.Method;
import java.lang.reflect.Modifier;
import java.util.Arrays;
import java.util.Set;
import java.util.TreeSet;

/** The public face is the document's and nothing more. */
public final class FaceTest {
    private static final String INDEX = " throws IndexOutOfBoundsException";
    private static final String ARGUMENT = " throws IllegalArgumentException";
    private static final Set<String> DUE = new TreeSet<>(Arrays.asList(
            "boolean put(int, int, int, int, int)" + INDEX + ARGUMENT,
            "boolean take(int)" + INDEX,
            "int clear()",
            "int find(int, int, int, int, int)" + ARGUMENT,
            "int nearest(int, int, int)" + ARGUMENT,
            "int pairs()",
            "long distance(int, int, int)" + INDEX + ARGUMENT,
            "int bounds(int)" + INDEX + " throws IllegalStateException",
            "int result(int)" + INDEX,
            "int box(int, int)" + INDEX,
            "int count(int)"));

    public static void main(String[] args) {
        int modifiers = BoxDrawer.class.getModifiers();
        Check.same("public", Modifier.isPublic(modifiers), true);
        Check.same("final", Modifier.isFinal(modifiers), true);
        methodsAreThoseOfTheDocument();
        privateNamesAreOthers();
        fieldsArePrivate();
        constructorIsOne();
        for (Class<?> inside : BoxDrawer.class.getDeclaredClasses()) {
            int its = inside.getModifiers();
            Check.same(inside + " is hidden",
                    Modifier.isPublic(its) || Modifier.isProtected(its), false);
            Check.same(inside + " is static", Modifier.isStatic(its), true);
        }
        Check.end();
    }

    private static void methodsAreThoseOfTheDocument() {
        Set<String> got = new TreeSet<>();
        for (Method method : BoxDrawer.class.getDeclaredMethods()) {
            if (!isPrivate(method)) {
                got.add(told(method));
            }
        }
        if (!got.equals(DUE)) {
            Check.say("the methods are " + got + ", due are " + DUE);
        }
    }

    private static String told(Method method) {
        StringBuilder text = new StringBuilder();
        text.append(method.getReturnType().getSimpleName()).append(' ').append(method.getName());
        String types = Arrays.toString(Arrays.stream(method.getParameterTypes())
                .map(Class::getSimpleName).toArray());
        text.append('(').append(types, 1, types.length() - 1).append(')');
        for (Class<?> thrown : method.getExceptionTypes()) {
            text.append(" throws ").append(thrown.getSimpleName());
        }
        return text.toString();
    }

    private static void privateNamesAreOthers() {
        Set<String> names = new TreeSet<>();
        for (Method method : BoxDrawer.class.getDeclaredMethods()) {
            if (!isPrivate(method)) {
                names.add(method.getName());
            }
        }
        for (Method method : BoxDrawer.class.getDeclaredMethods()) {
            if (isPrivate(method)) {
                Check.same("a private method is named " + method.getName(),
                        names.contains(method.getName()), false);
            }
        }
    }

    private static void fieldsArePrivate() {
        for (Field field : BoxDrawer.class.getDeclaredFields()) {
            if (!field.getName().equals("NONE")) {
                Check.same(field.getName() + " is private", isPrivate(field), true);
            }
            if (Modifier.isStatic(field.getModifiers())) {
                Check.same(field.getName() + " is final",
                        Modifier.isFinal(field.getModifiers()), true);
            }
        }
    }

    private static void constructorIsOne() {
        Constructor<?>[] all = BoxDrawer.class.getDeclaredConstructors();
        Check.same("constructors", all.length, 1);
        Check.same("its parameters", all[0].getParameterCount(), 0);
        Check.same("it is public", Modifier.isPublic(all[0].getModifiers()), true);
    }

    private static boolean isPrivate(Member member) {
        return Modifier.isPrivate(member.getModifiers());
    }
}
