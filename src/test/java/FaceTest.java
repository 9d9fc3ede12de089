import java.lang.reflect.Constructor;
import java.lang.reflect.Field;
import java.lang.reflect.Method;
import java.lang.reflect.Modifier;
import java.util.TreeSet;

/** The public face, and rules 1 and 5 of LANGUAGE.md as far as they show in the compiled class. */
public final class FaceTest {
    private static final String[] FACE = {
        "void input(int, long) IllegalArgumentException",
        "void task(int, int, int, int, int) IllegalArgumentException",
        "void remove(int) IllegalArgumentException NoSuchElementException",
        "long build(int, int) IllegalArgumentException NoSuchElementException"
            + " ArithmeticException IllegalStateException",
        "int forget(int) IllegalArgumentException",
        "int shrink(int) IllegalArgumentException",
        "int trace(int, int, int) IllegalArgumentException NoSuchElementException",
        "long traced(int, int, int) IllegalArgumentException NoSuchElementException",
        "boolean stale(int, int) IllegalArgumentException NoSuchElementException"
            + " ArithmeticException IllegalStateException",
        "int cached(int) NoSuchElementException",
        "int count(int)",
    };

    public static void main(String[] args) {
        Class<TraceBuilder> face = TraceBuilder.class;
        Check.same("the class", Modifier.toString(face.getModifiers()), "public final");
        methods(face);
        for (Constructor<?> constructor : face.getDeclaredConstructors()) {
            Check.same("constructor", constructor.toString(), "public TraceBuilder()");
        }
        privateFields(face);
        noStaticState(face);
        for (Class<?> inside : face.getDeclaredClasses()) {
            int modifiers = inside.getModifiers();
            Check.same(inside + " is public", Modifier.isPublic(modifiers), false);
            Check.same(inside + " is protected", Modifier.isProtected(modifiers), false);
            noStaticState(inside);
        }
        Check.finish();
    }

    private static void methods(Class<?> face) {
        TreeSet<String> due = new TreeSet<>();
        TreeSet<String> names = new TreeSet<>();
        for (String line : FACE) {
            due.add(line);
            names.add(line.substring(line.indexOf(' ') + 1, line.indexOf('(')));
        }
        TreeSet<String> got = new TreeSet<>();
        for (Method method : face.getDeclaredMethods()) {
            if (Modifier.isPublic(method.getModifiers())) {
                got.add(told(method));
            } else if (!method.isSynthetic()) {
                String what = "private method " + method.getName();
                Check.same(what, Modifier.isPrivate(method.getModifiers()), true);
                Check.same(what + " has a public one's name", names.contains(method.getName()),
                        false);
            }
        }
        Check.same("methods", got.toString(), due.toString());
    }

    private static String told(Method method) {
        StringBuilder text = new StringBuilder();
        text.append(method.getReturnType().getName()).append(' ').append(method.getName());
        text.append('(');
        for (int i = 0; i < method.getParameterCount(); i++) {
            text.append(i > 0 ? ", " : "").append(method.getParameterTypes()[i].getName());
        }
        text.append(')');
        for (Class<?> thrown : method.getExceptionTypes()) {
            text.append(' ').append(thrown.getSimpleName());
        }
        return text.toString();
    }

    private static void privateFields(Class<?> owner) {
        for (Field field : owner.getDeclaredFields()) {
            boolean isPrivate = field.isSynthetic() || Modifier.isPrivate(field.getModifiers());
            Check.same(field + " is private", isPrivate, true);
        }
    }

    private static void noStaticState(Class<?> owner) {
        for (Field field : owner.getDeclaredFields()) {
            if (!field.isSynthetic() && Modifier.isStatic(field.getModifiers())) {
                Check.same(field + " is final", Modifier.isFinal(field.getModifiers()), true);
            }
        }
    }
}
