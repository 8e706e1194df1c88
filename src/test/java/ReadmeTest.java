import java.io.ByteArrayOutputStream;
import java.io.IOException;
import java.io.PrintStream;
import java.lang.reflect.Method;
import java.lang.reflect.Modifier;
import java.net.URL;
import java.net.URLClassLoader;
import java.nio.charset.StandardCharsets;
import java.nio.file.Files;
import java.nio.file.Path;
import java.util.regex.Matcher;
import java.util.regex.Pattern;
import javax.tools.ToolProvider;

/** README.md: its example is built and prints what it says, and it names all calls and all tests. */
public final class ReadmeTest {
    private ReadmeTest() {
    }

    public static void main(String[] args) throws Exception {
        String page = Files.readString(Path.of("README.md"));
        example(page);
        calls(page);
        tests(page);
        Check.finish();
    }

    private static String block(String page, String kind) {
        Matcher found = Pattern.compile("```" + kind + "\n(.*?)```", Pattern.DOTALL).matcher(page);
        return found.find() ? found.group(1) : "no block of " + kind;
    }

    private static void example(String page) throws Exception {
        Check.part("the example");
        Path place = Files.createTempDirectory("readme");
        Path source = place.resolve("Example.java");
        Files.writeString(source, block(page, "java"));
        int built = ToolProvider.getSystemJavaCompiler().run(null, null, null, "-cp",
            System.getProperty("java.class.path"), "-d", place.toString(), source.toString());
        Check.due("it is built", built, 0);
        if (built == 0) {
            Check.same("what it prints", printed(place), block(page, "text"));
        }
        for (String name : new String[] {"Example.java", "Example.class"}) {
            Files.deleteIfExists(place.resolve(name));
        }
        Files.delete(place);
    }

    private static String printed(Path place) throws Exception {
        PrintStream before = System.out;
        ByteArrayOutputStream told = new ByteArrayOutputStream();
        try (URLClassLoader loader = new URLClassLoader(new URL[] {place.toUri().toURL()})) {
            System.setOut(new PrintStream(told, true, StandardCharsets.UTF_8));
            Method main = loader.loadClass("Example").getMethod("main", String[].class);
            main.invoke(null, (Object) new String[0]);
        } finally {
            System.setOut(before);
        }
        return told.toString(StandardCharsets.UTF_8).replace("\r\n", "\n");
    }

    private static void calls(String page) {
        Check.part("all calls are named");
        for (Method method : NameGate.class.getDeclaredMethods()) {
            if (Modifier.isPublic(method.getModifiers())) {
                Check.due(method.getName(), page.contains("`" + method.getName() + "`") ? 1 : 0, 1);
            }
        }
    }

    private static void tests(String page) throws IOException {
        Check.part("all tests are named");
        try (var files = Files.list(Path.of("src/test/java"))) {
            for (Path file : (Iterable<Path>) files.sorted()::iterator) {
                String name = file.getFileName().toString().replace(".java", "");
                Check.due(name, page.contains("`" + name + "`") ? 1 : 0, 1);
            }
        }
        Check.due("how they are run", page.contains("`.ci/run`") ? 1 : 0, 1);
    }
}
