import java.io.ByteArrayOutputStream;
import java.io.IOException;
import java.io.PrintStream;
import java.lang.reflect.Method;
import java.lang.reflect.Modifier;
import java.net.URL;
import java.net.URLClassLoader;
import java.nio.charset.StandardCharsets;
import java.nio.file.Files;
import java.nio.file.Path;
import java.util.Comparator;
import java.util.List;
import java.util.regex.Matcher;
import java.util.regex.Pattern;
import java.util.stream.Collectors;
import java.util.stream.Stream;
import javax.tools.ToolProvider;

/** README.md says what holds: its example, its calls and its tests. */
public final class ReadmeTest {
    public static void main(String[] args) throws Exception {
        String readme = Files.readString(Path.of("README.md"));
        Path work = Files.createTempDirectory("readme");
        try {
            String want = firstBlock(readme, "text");
            Check.due("the example", outputOf(firstBlock(readme, "java"), work), want);
        } finally {
            remove(work);
        }
        namesEveryCall(readme);
        namesOnlyTestsThatAreThere(readme);
        Check.end();
    }

    private static String firstBlock(String readme, String language) {
        Matcher block = Pattern.compile("```" + language + "\n(.*?)```", Pattern.DOTALL)
                .matcher(readme);
        Check.due("a block of " + language, block.find(), true);
        return block.group(1);
    }

    private static String outputOf(String program, Path work) throws Exception {
        Path source = Files.writeString(work.resolve("Example.java"), program);
        String path = System.getProperty("java.class.path");
        int failed = ToolProvider.getSystemJavaCompiler()
                .run(null, null, null, "-cp", path, "-d", work.toString(), source.toString());
        Check.due("compiling the example", failed, 0);
        PrintStream usual = System.out;
        ByteArrayOutputStream printed = new ByteArrayOutputStream();
        System.setOut(new PrintStream(printed, true, StandardCharsets.UTF_8));
        try (URLClassLoader loader = new URLClassLoader(new URL[] {work.toUri().toURL()})) {
            loader.loadClass("Example").getMethod("main", String[].class)
                    .invoke(null, (Object) new String[0]);
        } finally {
            System.setOut(usual);
        }
        return printed.toString(StandardCharsets.UTF_8).replace("\r\n", "\n");
    }

    private static void remove(Path work) throws IOException {
        List<Path> all;
        try (Stream<Path> found = Files.walk(work)) {
            all = found.sorted(Comparator.reverseOrder()).collect(Collectors.toList());
        }
        for (Path one : all) {
            Files.delete(one);
        }
    }

    private static void namesEveryCall(String readme) {
        for (Method method : FencedLedger.class.getDeclaredMethods()) {
            if (Modifier.isPublic(method.getModifiers())) {
                String row = "| `" + method.getName() + "(";
                Check.due("a row " + row, readme.contains(row), true);
            }
        }
    }

    private static void namesOnlyTestsThatAreThere(String readme) {
        Matcher named = Pattern.compile("\\b[A-Z]\\w*Test\\b").matcher(readme);
        while (named.find()) {
            Path file = Path.of("src/test/java", named.group() + ".java");
            Check.due(file + " is there", Files.exists(file), true);
        }
    }
}
