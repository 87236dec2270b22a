import java.io.ByteArrayOutputStream;
import java.io.IOException;
import java.io.PrintStream;
import java.lang.reflect.Method;
import java.lang.reflect.Modifier;
import java.net.URL;
import java.net.URLClassLoader;
import java.nio.charset.StandardCharsets;
import java.nio.file.Files;
import java.nio.file.Path;
import java.util.Comparator;
import java.util.List;
import java.util.stream.Stream;
import javax.tools.JavaCompiler;
import javax.tools.ToolProvider;

/** README.md: its example compiles and prints what stands there; it names every call and every test. */
public final class ReadmeTest {
    private static final Check CHECK = new Check();
    private static final Path README = Path.of("README.md");
    private static final Path TESTS = Path.of("src", "test", "java");

    public static void main(String[] args) throws IOException, ReflectiveOperationException {
        String text = Files.readString(README, StandardCharsets.UTF_8);
        printsWhatItSays(text);
        namesEveryCall(text);
        namesEveryTest(text);
        CHECK.end();
    }

    private static void printsWhatItSays(String text) throws IOException, ReflectiveOperationException {
        String code = blockOf(text, "java");
        String due = blockOf(text, "text");
        JavaCompiler compiler = ToolProvider.getSystemJavaCompiler();
        if (compiler == null) {
            System.out.println("ReadmeTest: no compiler in this java, so the example is not tried");
            return;
        }
        Path directory = Files.createTempDirectory("readme");
        try {
            String printed = compiles(compiler, directory, code) ? printedBy(directory) : "";
            if (!printed.equals(due)) {
                CHECK.tell("README.md: the example prints\n" + printed + "due is\n" + due);
            }
        } finally {
            delete(directory);
        }
    }

    /** The lines between those that begin and end the first block of this language. */
    private static String blockOf(String text, String language) {
        String opening = "```" + language + "\n";
        int from = text.indexOf(opening);
        int to = from < 0 ? -1 : text.indexOf("```\n", from + opening.length());
        if (to < 0) {
            CHECK.tell("README.md has no block in " + language);
            return "";
        }
        return text.substring(from + opening.length(), to);
    }

    private static boolean compiles(JavaCompiler compiler, Path directory, String code) throws IOException {
        Path file = directory.resolve("Example.java");
        Files.writeString(file, code, StandardCharsets.UTF_8);
        int result = compiler.run(null, null, null, "-cp", System.getProperty("java.class.path"),
                "-d", directory.toString(), file.toString());
        CHECK.same("README.md: compiling the example", result, 0);
        return result == 0;
    }

    private static String printedBy(Path directory) throws IOException, ReflectiveOperationException {
        PrintStream before = System.out;
        ByteArrayOutputStream bytes = new ByteArrayOutputStream();
        try (URLClassLoader loader = new URLClassLoader(new URL[] {directory.toUri().toURL()});
                PrintStream out = new PrintStream(bytes, true, StandardCharsets.UTF_8)) {
            Method main = loader.loadClass("Example").getMethod("main", String[].class);
            System.setOut(out);
            main.invoke(null, (Object) new String[0]);
        } finally {
            System.setOut(before);
        }
        return bytes.toString(StandardCharsets.UTF_8).replace(System.lineSeparator(), "\n");
    }

    private static void delete(Path directory) throws IOException {
        try (Stream<Path> all = Files.walk(directory)) {
            for (Path path : all.sorted(Comparator.reverseOrder()).toList()) {
                Files.delete(path);
            }
        }
    }

    private static void namesEveryCall(String text) {
        for (Method method : Bothfaces.class.getDeclaredMethods()) {
            if (Modifier.isPublic(method.getModifiers())) {
                CHECK.yes("README.md names the call " + method.getName(), names(text, method.getName()));
            }
        }
    }

    private static void namesEveryTest(String text) throws IOException {
        try (Stream<Path> all = Files.list(TESTS)) {
            List<String> files = all.map(path -> path.getFileName().toString()).toList();
            for (String file : files) {
                String name = file.replace(".java", "");
                if (name.endsWith("Test") || name.endsWith("Edges")) {
                    CHECK.yes("README.md names the test " + name, names(text, name));
                }
            }
        }
    }

    private static boolean names(String text, String name) {
        return text.contains("`" + name + "`");
    }
}
