import java.io.ByteArrayOutputStream;
import java.io.IOException;
import java.io.PrintStream;
import java.net.URL;
import java.net.URLClassLoader;
import java.nio.file.Files;
import java.nio.file.Path;
import java.util.ArrayList;
import java.util.List;
import java.util.stream.Stream;
import javax.tools.ToolProvider;

/** The example of README.md compiles with the class and prints what README.md says that it prints. */
public final class ReadmeTests {
    public static void main(String[] args) throws Exception {
        Path readme = Path.of("README.md");
        if (!Files.exists(readme)) {
            fail("there is no README.md here: run it from the project's directory");
        }
        List<String> lines = Files.readAllLines(readme);
        List<String> program = block(lines, "java");
        List<String> due = block(lines, "text");
        List<String> printed = outputOf(program);
        if (due.isEmpty() || !printed.equals(due)) {
            fail("the example prints " + printed + ", due is " + due);
        }
        System.out.println("the example of README.md holds");
    }

    private static void fail(String what) {
        System.out.println(what);
        System.exit(1);
    }

    private static List<String> block(List<String> lines, String kind) {
        List<String> found = new ArrayList<>();
        int start = lines.indexOf("```" + kind);
        if (start < 0) {
            fail("README.md has no block of " + kind);
        }
        for (int i = start + 1; i < lines.size() && !lines.get(i).equals("```"); i++) {
            found.add(lines.get(i));
        }
        return found;
    }

    private static List<String> outputOf(List<String> program) throws Exception {
        Path directory = Files.createTempDirectory("readme");
        try {
            Path source = directory.resolve("Example.java");
            Files.write(source, program);
            int refused = ToolProvider.getSystemJavaCompiler().run(null, null, null,
                    "-cp", System.getProperty("java.class.path"),
                    "-d", directory.toString(), source.toString());
            if (refused != 0) {
                throw new IllegalStateException("the example does not compile");
            }
            return run(directory);
        } finally {
            remove(directory);
        }
    }

    private static List<String> run(Path classes) throws Exception {
        PrintStream screen = System.out;
        ByteArrayOutputStream caught = new ByteArrayOutputStream();
        URL[] place = {classes.toUri().toURL()};
        try (URLClassLoader loader = new URLClassLoader(place);
                PrintStream into = new PrintStream(caught, true)) {
            System.setOut(into);
            Class<?> example = loader.loadClass("Example");
            example.getMethod("main", String[].class).invoke(null, (Object) new String[0]);
        } finally {
            System.setOut(screen);
        }
        return new ArrayList<>(caught.toString().lines().toList());
    }

    private static void remove(Path directory) throws IOException {
        try (Stream<Path> files = Files.list(directory)) {
            for (Path file : files.toList()) {
                Files.delete(file);
            }
        }
        Files.delete(directory);
    }
}
