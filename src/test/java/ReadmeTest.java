import java.io.ByteArrayOutputStream;
import java.io.IOException;
import java.io.PrintStream;
import java.net.URL;
import java.net.URLClassLoader;
import java.nio.charset.StandardCharsets;
import java.nio.file.Files;
import java.nio.file.Path;
import javax.tools.ToolProvider;

/** The example of README.md: it is compiled and run, and must print what README.md says. */
public final class ReadmeTest {
    private static final Path README = Path.of("README.md");

    public static void main(String[] args) throws IOException, ReflectiveOperationException {
        String readme = Files.readString(README);
        Path folder = Files.createTempDirectory("readme");
        Path example = folder.resolve("Example.java");
        Files.writeString(example, block(readme, "java"));
        Check check = new Check();
        check.due("compiling the example", compile(example, folder), 0);
        String printed = check.wrong() == 0 ? run(folder) : "";
        check.due("prints " + printed + "as README.md says", printed.equals(block(readme, "text")), true);
        for (String name : new String[] {"Example.class", "Example.java"}) {
            Files.deleteIfExists(folder.resolve(name));
        }
        Files.delete(folder);
        check.end();
    }

    /** What stands between the first fence of this kind and the next fence; nothing if there is none. */
    private static String block(String text, String kind) {
        String fence = "\n```" + kind + "\n";
        int from = text.indexOf(fence);
        int to = text.indexOf("\n```", from + fence.length());
        return from < 0 || to < 0 ? "" : text.substring(from + fence.length(), to + 1);
    }

    private static int compile(Path example, Path folder) {
        return ToolProvider.getSystemJavaCompiler().run(null, null, null, "-cp",
            System.getProperty("java.class.path"), "-d", folder.toString(), example.toString());
    }

    private static String run(Path folder) throws IOException, ReflectiveOperationException {
        ByteArrayOutputStream printed = new ByteArrayOutputStream();
        PrintStream ahead = System.out;
        System.setOut(new PrintStream(printed, true, StandardCharsets.UTF_8));
        try (URLClassLoader loader = new URLClassLoader(new URL[] {folder.toUri().toURL()})) {
            loader.loadClass("Example").getMethod("main", String[].class).invoke(null, (Object) new String[0]);
        } finally {
            System.setOut(ahead);
        }
        return printed.toString(StandardCharsets.UTF_8).replace(System.lineSeparator(), "\n");
    }
}
