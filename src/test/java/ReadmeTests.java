import java.io.ByteArrayOutputStream;
import java.io.IOException;
import java.io.PrintStream;
import java.lang.reflect.Field;
import java.lang.reflect.Method;
import java.lang.reflect.Modifier;
import java.net.URL;
import java.net.URLClassLoader;
import java.nio.file.Files;
import java.nio.file.Path;
import javax.tools.ToolProvider;

/** README.md holds: its program prints what it says, and it names every call and constant. */
public final class ReadmeTests {
    private static final Path README = Path.of("README.md");

    private ReadmeTests() {
    }

    public static void main(String[] args) throws Exception {
        String text = Files.readString(README);
        theProgramPrintsWhatIsSaid(text);
        everyCallAndConstantIsNamed(text);
        Check.end();
    }

    private static void theProgramPrintsWhatIsSaid(String text) throws Exception {
        Check.begin("README.md, the program");
        Path folder = Files.createTempDirectory("readme");
        Path source = folder.resolve("Example.java");
        Files.writeString(source, block(text, "```java\n"));
        String path = System.getProperty("java.class.path");
        int failed = ToolProvider.getSystemJavaCompiler().run(null, System.out, System.out, "-cp", path, "-d",
            folder.toString(), source.toString());
        Check.same("javac", 0, failed);
        if (failed == 0) {
            Check.same("what it prints", block(text, "```text\n"), printed(folder));
        }
        Files.deleteIfExists(folder.resolve("Example.class"));
        Files.deleteIfExists(source);
        Files.deleteIfExists(folder);
    }

    /** What stands between the start of a block and its end. */
    private static String block(String text, String start) {
        int from = text.indexOf(start) + start.length();
        return text.substring(from, text.indexOf("```", from));
    }

    private static String printed(Path folder) throws IOException, ReflectiveOperationException {
        ByteArrayOutputStream bytes = new ByteArrayOutputStream();
        PrintStream before = System.out;
        try (URLClassLoader loader = new URLClassLoader(new URL[] {folder.toUri().toURL()})) {
            System.setOut(new PrintStream(bytes, true));
            loader.loadClass("Example").getMethod("main", String[].class).invoke(null, (Object) new String[0]);
        } finally {
            System.setOut(before);
        }
        return bytes.toString().replace(System.lineSeparator(), "\n");
    }

    private static void everyCallAndConstantIsNamed(String text) {
        Check.begin("README.md, the calls and constants");
        for (Method method : ButtonReef.class.getDeclaredMethods()) {
            if (Modifier.isPublic(method.getModifiers())) {
                Check.same(method.getName() + "(", true, text.contains("`" + method.getName() + "("));
            }
        }
        for (Field field : ButtonReef.class.getDeclaredFields()) {
            if (Modifier.isPublic(field.getModifiers())) {
                Check.same(field.getName(), true, text.contains("| `" + field.getName() + "` |"));
            }
        }
    }
}
