import java.lang.reflect.Constructor;
import java.lang.reflect.Field;
import java.lang.reflect.Method;
import java.lang.reflect.Modifier;
import java.util.Set;
import java.util.TreeSet;

/** The public face, and what LANGUAGE.md's first and fifth rules say of the other members. */
public final class FaceTest {
    private static final Set<String> FACE = new TreeSet<>(Set.of(
        "int set(long) IllegalArgumentException",
        "int digit(int) IllegalArgumentException IndexOutOfBoundsException",
        "void clear(boolean,int) IllegalArgumentException",
        "int round(int) IllegalArgumentException",
        "int places(int) IllegalArgumentException",
        "long nearest() ArithmeticException",
        "int enough() ArithmeticException",
        "int look(int) IndexOutOfBoundsException",
        "int count(int) IllegalArgumentException"));

    public static void main(String[] args) {
        Class<?> face = DecimalTruth.class;
        Due.same("modifiers", Modifier.toString(face.getModifiers()), "public final");
        hasTheConstructorAlone(face);
        hasTheMethodsAlone(face);
        for (Field field : face.getDeclaredFields()) {
            Due.same("privacy of " + field.getName(), Modifier.isPrivate(field.getModifiers()) ? 1 : 0, 1);
        }
        staticFieldsAreFinal(face);
        for (Class<?> inside : face.getDeclaredClasses()) {
            staticFieldsAreFinal(inside);
            Due.same(inside.getName() + " is static", Modifier.isStatic(inside.getModifiers()) ? 1 : 0, 1);
            Due.same(inside.getName() + " is public", Modifier.isPublic(inside.getModifiers()) ? 1 : 0, 0);
        }
        Due.end();
    }

    private static void hasTheConstructorAlone(Class<?> face) {
        Constructor<?>[] all = face.getDeclaredConstructors();
        Due.same("constructors", all.length, 1);
        Due.same("constructor", all[0].toString(), "public DecimalTruth()");
    }

    private static void hasTheMethodsAlone(Class<?> face) {
        Set<String> found = new TreeSet<>();
        Set<String> names = new TreeSet<>();
        for (Method method : face.getDeclaredMethods()) {
            if (!Modifier.isPrivate(method.getModifiers())) {
                found.add(text(method));
                names.add(method.getName());
            }
        }
        Due.same("methods", found.toString(), FACE.toString());
        for (Method method : face.getDeclaredMethods()) {
            if (Modifier.isPrivate(method.getModifiers())) {
                Due.same(method.getName() + " is a public name", names.contains(method.getName()) ? 1 : 0, 0);
            }
        }
    }

    private static String text(Method method) {
        StringBuilder out = new StringBuilder();
        out.append(method.getReturnType().getName()).append(' ').append(method.getName()).append('(');
        for (int i = 0; i < method.getParameterCount(); i++) {
            out.append(i == 0 ? "" : ",").append(method.getParameterTypes()[i].getName());
        }
        out.append(')');
        for (Class<?> thrown : method.getExceptionTypes()) {
            out.append(' ').append(thrown.getSimpleName());
        }
        return out.toString();
    }

    private static void staticFieldsAreFinal(Class<?> owner) {
        for (Field field : owner.getDeclaredFields()) {
            if (Modifier.isStatic(field.getModifiers())) {
                Due.same(field + " is final", Modifier.isFinal(field.getModifiers()) ? 1 : 0, 1);
            }
        }
    }
}
