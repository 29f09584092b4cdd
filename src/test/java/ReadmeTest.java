import java.io.ByteArrayOutputStream;
import java.io.IOException;
import java.io.PrintStream;
import java.net.URL;
import java.net.URLClassLoader;
import java.nio.file.Files;
import java.nio.file.Path;
import java.util.stream.Stream;
import javax.tools.ToolProvider;

/** The example of README.md compiles, and prints what is said there. */
final class ReadmeTest {
    public static void main(String[] args) throws IOException, ReflectiveOperationException {
        String readme = Files.readString(Path.of("README.md"));
        Path dir = Files.createTempDirectory("readme");
        try {
            Path file = dir.resolve("Example.java");
            Files.writeString(file, block(readme, "java"));
            int failed = ToolProvider.getSystemJavaCompiler().run(null, null, null, "-d",
                    dir.toString(), "src/main/java/TableauBench.java", file.toString());
            Check.same("javac of the example", failed, 0);
            if (failed == 0) {
                Check.text("the example", printedBy(dir), block(readme, "text"));
            }
        } finally {
            remove(dir);
        }
        Check.end();
    }

    /** The first block of README.md in this language. */
    private static String block(String readme, String language) {
        int mark = readme.indexOf("```" + language + "\n");
        int begin = readme.indexOf('\n', mark) + 1;
        return mark < 0 ? "" : readme.substring(begin, readme.indexOf("```", begin));
    }

    private static String printedBy(Path dir) throws IOException, ReflectiveOperationException {
        ByteArrayOutputStream printed = new ByteArrayOutputStream();
        PrintStream out = System.out;
        // Without a parent that knows the class already, the one just compiled is run.
        URL[] place = {dir.toUri().toURL()};
        try (URLClassLoader loader = new URLClassLoader(place, null)) {
            System.setOut(new PrintStream(printed, true));
            loader.loadClass("Example").getMethod("main", String[].class)
                    .invoke(null, (Object) new String[0]);
        } finally {
            System.setOut(out);
        }
        return printed.toString().replace("\r\n", "\n");
    }

    private static void remove(Path dir) throws IOException {
        try (Stream<Path> files = Files.list(dir)) {
            for (Path file : files.toList()) {
                Files.delete(file);
            }
        }
        Files.delete(dir);
    }
}
