import java.io.ByteArrayOutputStream;
import java.io.File;
import java.io.IOException;
import java.io.PrintStream;
import java.lang.reflect.Method;
import java.lang.reflect.Modifier;
import java.net.URL;
import java.net.URLClassLoader;
import java.nio.charset.StandardCharsets;
import java.nio.file.Files;
import java.nio.file.Path;
import java.util.ArrayList;
import java.util.List;
import java.util.stream.Stream;
import javax.tools.JavaCompiler;
import javax.tools.ToolProvider;

/** README.md says how to use the class and how to run its tests; what it says must be so. */
public final class ReadmeTest {
    private static final List<String> WRONG = new ArrayList<>();

    private ReadmeTest() {
    }

    public static void main(String[] args) throws Exception {
        Path file = Path.of("README.md");
        if (!Files.isRegularFile(file)) {
            System.out.println("README.md is missing");
            System.exit(1);
        }
        String readme = Files.readString(file, StandardCharsets.UTF_8);
        exampleIsTrue(readme);
        namesEveryCall(readme);
        namesEveryTest(readme);
        check("does not say how to run the tests", readme.contains(".ci/run"));
        for (String wrong : WRONG) {
            System.out.println("README.md " + wrong);
        }
        if (!WRONG.isEmpty()) {
            System.exit(1);
        }
        System.out.println("README.md says what is so");
    }

    private static void check(String wrong, boolean good) {
        if (!good) {
            WRONG.add(wrong);
        }
    }

    /** What stands between the first fence of a kind and its end; empty if there is none. */
    private static String block(String text, String kind) {
        String opening = "```" + kind + "\n";
        int from = text.indexOf(opening);
        int to = from < 0 ? -1 : text.indexOf("\n```", from + opening.length());
        return to < 0 ? "" : text.substring(from + opening.length(), to + 1);
    }

    private static void exampleIsTrue(String readme) throws Exception {
        String source = block(readme, "java");
        String due = block(readme, "text");
        if (source.isEmpty() || due.isEmpty()) {
            check("has no example, or not what it prints", false);
            return;
        }
        Path folder = Files.createTempDirectory("readme");
        try {
            Path example = folder.resolve("Example.java");
            Files.writeString(example, source);
            JavaCompiler compiler = ToolProvider.getSystemJavaCompiler();
            int answer = compiler.run(null, null, null, "-Xlint:all", "-Werror", "-d", folder.toString(),
                    "-cp", System.getProperty("java.class.path"), example.toString());
            check("has an example that is not Java", answer == 0);
            if (answer == 0) {
                String got = printed(folder);
                check("says its example prints\n" + due + "but it prints\n" + got, got.equals(due));
            }
        } finally {
            remove(folder);
        }
    }

    private static String printed(Path folder) throws Exception {
        PrintStream before = System.out;
        ByteArrayOutputStream bytes = new ByteArrayOutputStream();
        URL[] urls = {folder.toUri().toURL()};
        try (URLClassLoader loader = new URLClassLoader(urls, ReadmeTest.class.getClassLoader());
                PrintStream out = new PrintStream(bytes, true, StandardCharsets.UTF_8)) {
            System.setOut(out);
            loader.loadClass("Example").getMethod("main", String[].class).invoke(null, (Object) new String[0]);
        } finally {
            System.setOut(before);
        }
        return bytes.toString(StandardCharsets.UTF_8).replace(System.lineSeparator(), "\n");
    }

    private static void remove(Path folder) throws IOException {
        File[] files = folder.toFile().listFiles();
        if (files != null) {
            for (File f : files) {
                Files.delete(f.toPath());
            }
        }
        Files.delete(folder);
    }

    private static void namesEveryCall(String readme) {
        int table = readme.indexOf("### Which call for what");
        String calls = table < 0 ? "" : readme.substring(table, Math.max(table, readme.indexOf("\n## ", table)));
        for (Method m : PinPlan.class.getDeclaredMethods()) {
            if (Modifier.isPublic(m.getModifiers())) {
                String name = "`" + m.getName() + "`";
                int first = calls.indexOf(name);
                check("does not name " + name + " just once", first >= 0 && calls.indexOf(name, first + 1) < 0);
            }
        }
    }

    private static void namesEveryTest(String readme) throws IOException {
        try (Stream<Path> files = Files.list(Path.of("src/test/java"))) {
            for (Path p : files.sorted().toList()) {
                String name = "`" + p.getFileName().toString().replace(".java", "") + "`";
                check("does not name " + name, readme.contains(name));
            }
        }
    }
}
