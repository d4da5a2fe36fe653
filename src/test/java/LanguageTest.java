import java.lang.reflect.Executable;
import java.lang.reflect.Field;
import java.lang.reflect.Modifier;
import java.nio.file.Files;
import java.nio.file.Path;
import java.util.ArrayList;
import java.util.Arrays;
import java.util.List;
import java.util.Set;
import java.util.regex.Matcher;
import java.util.regex.Pattern;

/**
 * The rules of LANGUAGE.md that can be read off the source and the class. Where the program needs
 * less than a rule allows (it imports nothing, say), the test holds it to that.
 */
public final class LanguageTest {
    private static final Path SOURCE = Path.of("src/main/java/FencedLedger.java");

    private static final Pattern RULED_OUT = Pattern.compile(
            "->|::|@|\\b(package|import|synchronized|assert|finally|try|catch|native|volatile"
                    + "|protected|float|double|equals|hashCode|toString|getMessage|Object"
                    + "|Thread|Random|Class)\\b");
    private static final Pattern LIBRARY =
            Pattern.compile("\\b(Math|Integer|Long|Arrays|System|List|String)\\.(\\w+)");
    private static final Set<String> USED =
            Set.of("Math.max", "Math.min", "Integer.bitCount");
    private static final Pattern THROW = Pattern.compile("\\bthrow\\b([^;]*);");
    private static final Pattern RIGHT_THROW = Pattern.compile(
            " new (IllegalState|IndexOutOfBounds|UnsupportedOperation)Exception\\(\"\"\\)");
    private static final Pattern METHOD_START =
            Pattern.compile("( {4}| {8})(public|private) [^=;]*\\(.*");
    private static final Pattern MADE = Pattern.compile("(\\w*) *\\bnew\\b");
    private static final Set<Class<?>> CONSTANTS =
            Set.of(int.class, long.class, boolean.class, char.class, String.class);

    public static void main(String[] args) throws Exception {
        String code = withoutCommentsAndTexts(Files.readString(SOURCE));
        nothingRuledOut(code);
        onlyThisOfTheLibrary(code);
        throwsAreRight(code);
        methodsAreShortAndMakeNothing(code);
        classesAreSmall();
        Check.end();
    }

    private static String withoutCommentsAndTexts(String source) {
        return source.replaceAll("(?s)/\\*.*?\\*/", "")
                .replaceAll("//[^\n]*", "")
                .replaceAll("\"[^\"\n]*\"", "\"\"");
    }

    private static void nothingRuledOut(String code) {
        Matcher found = RULED_OUT.matcher(code);
        while (found.find()) {
            Check.due("rules 2, 3, 6 and 13", found.group(), "nothing of the kind");
        }
    }

    private static void onlyThisOfTheLibrary(String code) {
        Matcher found = LIBRARY.matcher(code);
        while (found.find()) {
            Check.due("rule 4 on " + found.group(), USED.contains(found.group()), true);
        }
    }

    private static void throwsAreRight(String code) {
        Matcher found = THROW.matcher(code);
        int count = 0;
        while (found.find()) {
            count++;
            boolean right = RIGHT_THROW.matcher(found.group(1)).matches();
            Check.due("rule 6 on throw" + found.group(1), right, true);
        }
        Check.due("throws of add and read", count, 5);
    }

    /** Rows are made by constructors alone, so that no run of calls can fill the room. */
    private static void methodsAreShortAndMakeNothing(String code) {
        int methods = 0;
        for (List<String> method : methodsOf(code)) {
            methods++;
            String head = method.get(0).trim();
            Check.due("rule 11 on the length of " + head, method.size() <= 60, true);
            if (!head.matches("(public|private) [A-Z]\\w*\\(.*")) {
                Matcher made = MADE.matcher(String.join("\n", method));
                while (made.find()) {
                    Check.due("what stands before new in " + head, made.group(1), "throw");
                }
            } else {
                Check.due("rule 6 on " + head, String.join(" ", method).contains("throw"), false);
            }
        }
        Check.due("methods and constructors in the source", methods, countExecutables());
    }

    private static List<List<String>> methodsOf(String code) {
        List<List<String>> methods = new ArrayList<>();
        List<String> open = null;
        String end = "";
        for (String line : code.split("\n")) {
            Matcher start = METHOD_START.matcher(line);
            if (open == null && start.matches()) {
                open = new ArrayList<>();
                end = start.group(1) + "}";
            }
            if (open != null) {
                open.add(line);
                if (line.equals(end)) {
                    methods.add(open);
                    open = null;
                }
            }
        }
        return methods;
    }

    private static List<Class<?>> allClasses() {
        List<Class<?>> all = new ArrayList<>();
        all.add(FencedLedger.class);
        all.addAll(Arrays.asList(FencedLedger.class.getDeclaredClasses()));
        return all;
    }

    private static List<Executable> executables(Class<?> one) {
        List<Executable> all = new ArrayList<>(Arrays.asList(one.getDeclaredConstructors()));
        all.addAll(Arrays.asList(one.getDeclaredMethods()));
        return all;
    }

    /** A class without a constructor in its source has one all the same, which is not counted. */
    private static int countExecutables() {
        int count = 0;
        for (Class<?> one : allClasses()) {
            count += one.getDeclaredMethods().length;
        }
        int writtenConstructors = 3;
        return count + writtenConstructors;
    }

    private static void classesAreSmall() {
        Check.due("rule 11 on the classes", allClasses().size() <= 12, true);
        for (Class<?> one : allClasses()) {
            int fields = 0;
            for (Field field : one.getDeclaredFields()) {
                if (Modifier.isStatic(field.getModifiers())) {
                    Check.due("rule 5 on " + field, isConstant(field), true);
                } else {
                    fields++;
                }
            }
            Check.due("rule 11 on the fields of " + one, fields <= 20, true);
            for (Executable method : executables(one)) {
                Check.due("rule 11 on " + method, method.getParameterCount() <= 7, true);
            }
        }
    }

    private static boolean isConstant(Field field) {
        return Modifier.isFinal(field.getModifiers()) && CONSTANTS.contains(field.getType());
    }
}
