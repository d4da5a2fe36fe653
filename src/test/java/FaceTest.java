import java.lang.reflect.Constructor;
import java.lang.reflect.Field;
import java.lang.reflect.Method;
import java.lang.reflect.Modifier;
import java.util.Arrays;
import java.util.Set;
import java.util.TreeSet;
import java.util.stream.Collectors;

/** The public face of the document and rule 1 of LANGUAGE.md. */
public final class FaceTest {
    private static final String[] FACE = {
        "public static final int NONE",
        "public FencedLedger(int, int, int)",
        "public int add(int) throws IllegalStateException, IndexOutOfBoundsException",
        "public int resend(int)",
        "public boolean close()",
        "public boolean leave()",
        "public boolean recover(int)",
        "public int retry(int)",
        "public boolean abandon(int)",
        "public int deliver(int)",
        "public boolean lose(int)",
        "public int flight()",
        "public int message(int, int)",
        "public boolean power(int, boolean)",
        "public int store(int, int)",
        "public boolean has(int, int)",
        "public int writer(int)",
        "public int answers(int)",
        "public int recoverer(int, int)",
        "public int ledger(int)",
        "public int read(int) throws IllegalStateException, IndexOutOfBoundsException,"
                + " UnsupportedOperationException",
    };

    public static void main(String[] args) {
        Class<?> face = FencedLedger.class;
        Check.due("the class", Modifier.toString(face.getModifiers()), "public final");
        Check.due("its package", face.getPackageName(), "");
        Set<String> want = new TreeSet<>(Arrays.asList(FACE));
        Check.due("its face", visible(face).toString(), want.toString());
        for (Class<?> inside : face.getDeclaredClasses()) {
            int modifiers = inside.getModifiers();
            Check.due(inside + " is static", Modifier.isStatic(modifiers), true);
            Check.due(inside + " is hidden", Modifier.isPublic(modifiers), false);
        }
        privateNamesDiffer(face);
        Check.end();
    }

    private static Set<String> visible(Class<?> face) {
        Set<String> seen = new TreeSet<>();
        for (Field field : face.getDeclaredFields()) {
            if (!Modifier.isPrivate(field.getModifiers())) {
                seen.add(
                        Modifier.toString(field.getModifiers())
                                + " " + field.getType().getSimpleName() + " " + field.getName());
            }
        }
        for (Constructor<?> made : face.getDeclaredConstructors()) {
            if (!Modifier.isPrivate(made.getModifiers())) {
                seen.add(
                        Modifier.toString(made.getModifiers()) + " " + face.getSimpleName()
                                + "(" + names(made.getParameterTypes()) + ")");
            }
        }
        for (Method method : face.getDeclaredMethods()) {
            if (!Modifier.isPrivate(method.getModifiers())) {
                seen.add(describe(method));
            }
        }
        return seen;
    }

    private static String describe(Method method) {
        String thrown = names(method.getExceptionTypes());
        return Modifier.toString(method.getModifiers())
                + " " + method.getReturnType().getSimpleName()
                + " " + method.getName()
                + "(" + names(method.getParameterTypes()) + ")"
                + (thrown.isEmpty() ? "" : " throws " + thrown);
    }

    private static String names(Class<?>[] types) {
        return Arrays.stream(types).map(Class::getSimpleName).collect(Collectors.joining(", "));
    }

    private static void privateNamesDiffer(Class<?> face) {
        Set<String> open = new TreeSet<>();
        for (Method method : face.getDeclaredMethods()) {
            if (Modifier.isPublic(method.getModifiers())) {
                open.add(method.getName());
            }
        }
        for (Method method : face.getDeclaredMethods()) {
            if (!Modifier.isPublic(method.getModifiers())) {
                Check.due(method + " has a public name", open.contains(method.getName()), false);
            }
        }
        for (Class<?> inside : face.getDeclaredClasses()) {
            for (Method method : inside.getDeclaredMethods()) {
                Check.due(method + " has a public name", open.contains(method.getName()), false);
            }
        }
    }
}
