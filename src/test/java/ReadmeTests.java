import java.io.ByteArrayOutputStream;
import java.io.IOException;
import java.io.PrintStream;
import java.net.URL;
import java.net.URLClassLoader;
import java.nio.charset.StandardCharsets;
import java.nio.file.Files;
import java.nio.file.Path;
import javax.tools.ToolProvider;

/** README.md's example compiles together with the class and prints what README.md tells; it is run from its folder. */
final class ReadmeTests {

    public static void main(String[] args) throws Exception {
        String readme = Files.readString(Path.of("README.md"));
        Path folder = Files.createTempDirectory("readme");
        Path source = Files.writeString(folder.resolve("Example.java"), block(readme, "```java\n"));
        Check.due("compiling the example", compiled(source, folder), 0);
        Check.due("the example prints", printed(folder), block(readme, "```text\n"));
        deleteAll(folder);
        Check.end("ReadmeTests");
    }

    private static String block(String readme, String beginning) {
        int start = readme.indexOf(beginning) + beginning.length();
        return readme.substring(start, readme.indexOf("```", start));
    }

    private static int compiled(Path source, Path folder) {
        return ToolProvider.getSystemJavaCompiler().run(null, null, null, "-Xlint:all", "-Werror",
                "-cp", System.getProperty("java.class.path"), "-d", folder.toString(), source.toString());
    }

    private static String printed(Path folder) throws Exception {
        ByteArrayOutputStream bytes = new ByteArrayOutputStream();
        PrintStream console = System.out;
        try (URLClassLoader loader = new URLClassLoader(new URL[] {folder.toUri().toURL()})) {
            System.setOut(new PrintStream(bytes, true, StandardCharsets.UTF_8));
            loader.loadClass("Example").getMethod("main", String[].class).invoke(null, (Object) new String[0]);
        } finally {
            System.setOut(console);
        }
        return bytes.toString(StandardCharsets.UTF_8).replace(System.lineSeparator(), "\n");
    }

    private static void deleteAll(Path folder) throws IOException {
        for (String name : new String[] {"Example.java", "Example.class"}) {
            Files.deleteIfExists(folder.resolve(name));
        }
        Files.deleteIfExists(folder);
    }
}
