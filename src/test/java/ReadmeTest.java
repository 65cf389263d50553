import java.io.ByteArrayOutputStream;
import java.io.PrintStream;
import java.lang.reflect.Method;
import java.lang.reflect.Modifier;
import java.net.URL;
import java.net.URLClassLoader;
import java.nio.file.Files;
import java.nio.file.Path;
import java.util.ArrayList;
import java.util.List;
import java.util.regex.Matcher;
import java.util.regex.Pattern;
import java.util.stream.Stream;
import javax.tools.ToolProvider;

/** README.md's example answers as its comments say, and the page names each call of the face and each test. */
public final class ReadmeTest {
    private static final Check check = new Check("ReadmeTest");

    public static void main(String[] args) throws Exception {
        Path root = Path.of(args[0]);
        String page = Files.readString(root.resolve("README.md"));
        String example = exampleOf(page);
        check.judge("answers of the example", answersDue(example), answersOf(example));
        for (Method method : Lampwick.class.getDeclaredMethods()) {
            if (Modifier.isPublic(method.getModifiers())) {
                check.judge("the page names " + method.getName(), true, page.contains("`" + method.getName() + "`"));
            }
        }
        for (String test : tests(root)) {
            check.judge("the page names " + test, true, page.contains("`" + test + "`"));
        }
        check.judge("the page says how all tests are run", true, page.contains("\nbash .ci/run\n"));
        check.end();
    }

    private static String exampleOf(String page) {
        Matcher block = Pattern.compile("(?s)```java\n(.*?)```").matcher(page);
        check.judge("the page has an example", true, block.find());
        return block.group(1);
    }

    private static List<String> answersDue(String example) {
        List<String> due = new ArrayList<>();
        for (String line : example.split("\n")) {
            if (line.contains("System.out.println")) {
                due.add(line.replaceFirst(".*; *// ", ""));
            }
        }
        return due;
    }

    private static List<String> answersOf(String example) throws Exception {
        Path build = Files.createTempDirectory("readme");
        Path file = build.resolve("Example.java");
        Files.writeString(file, "public class Example { public static void main(String[] args) {\n" + example + "}}\n");
        int failed = ToolProvider.getSystemJavaCompiler().run(null, null, null, "-d", build.toString(), "-cp",
                System.getProperty("java.class.path"), file.toString());
        check.judge("the example compiles", 0, failed);
        PrintStream console = System.out;
        ByteArrayOutputStream printed = new ByteArrayOutputStream();
        try (URLClassLoader loader = new URLClassLoader(new URL[] {build.toUri().toURL()})) {
            System.setOut(new PrintStream(printed, true));
            loader.loadClass("Example").getMethod("main", String[].class).invoke(null, (Object) new String[0]);
        } finally {
            System.setOut(console);
            delete(build);
        }
        return printed.toString().lines().toList();
    }

    private static void delete(Path directory) throws Exception {
        try (Stream<Path> files = Files.list(directory)) {
            for (Path file : files.toList()) {
                Files.delete(file);
            }
        }
        Files.delete(directory);
    }

    private static List<String> tests(Path root) throws Exception {
        try (Stream<Path> files = Files.list(root.resolve("src").resolve("test").resolve("java"))) {
            return files.map(file -> file.getFileName().toString().replace(".java", ""))
                    .filter(name -> name.endsWith("Test")).toList();
        }
    }
}
