import java.io.IOException;
import java.lang.reflect.Method;
import java.lang.reflect.Modifier;
import java.net.URL;
import java.net.URLClassLoader;
import java.nio.file.DirectoryStream;
import java.nio.file.Files;
import java.nio.file.Path;
import java.util.ArrayList;
import java.util.List;
import java.util.regex.Matcher;
import java.util.regex.Pattern;
import javax.tools.ToolProvider;

/** README.md tells every call and every test, and its example, compiled and run, answers what stands behind each call. */
public final class ReadmeTest {
    private static final Pattern EXAMPLE = Pattern.compile("```java\n(.*?)```", Pattern.DOTALL);
    private static final Pattern CALL = Pattern.compile("(x\\.(\\w+)\\(.*\\)); +// (-?\\d+)\\b.*");

    private final Due due = new Due();
    private final String readme;
    private final List<String> calls = new ArrayList<>();
    private final List<Integer> answers = new ArrayList<>();

    private ReadmeTest(String readme) {
        this.readme = readme;
    }

    public static void main(String[] args) throws IOException, ReflectiveOperationException {
        ReadmeTest test = new ReadmeTest(Files.readString(Path.of("README.md")));
        test.readExample();
        test.exampleAnswers();
        test.everyCallIsTold();
        test.everyTestIsTold();
        test.due.end();
    }

    private void readExample() {
        Matcher example = EXAMPLE.matcher(readme);
        due.is("README.md has an example", example.find() ? 1 : 0, 1);
        for (String line : example.group(1).lines().toList()) {
            Matcher call = CALL.matcher(line);
            if (call.matches()) {
                calls.add(call.group(1));
                answers.add(Integer.valueOf(call.group(3)));
            } else {
                boolean other = line.isEmpty() || line.equals("HashSigner x = new HashSigner();");
                due.is("a line of the example is a call with its answer, a new object, or empty: " + line, other ? 1 : 0, 1);
            }
        }
    }

    private void exampleAnswers() throws IOException, ReflectiveOperationException {
        int[] got = runCalls();
        for (int i = 0; i < got.length; i++) {
            due.is("README.md's " + calls.get(i), got[i], answers.get(i));
        }
    }

    private int[] runCalls() throws IOException, ReflectiveOperationException {
        Path room = Files.createTempDirectory("readme");
        Path source = room.resolve("Example.java");
        Files.writeString(source, "public class Example { public static int[] run() { HashSigner x = new HashSigner();"
            + " return new int[] {" + String.join(",\n", calls) + "}; } }");
        int failed = ToolProvider.getSystemJavaCompiler().run(null, null, null,
            "-cp", System.getProperty("java.class.path"), "-d", room.toString(), source.toString());
        due.is("compiling README.md's example", failed, 0);
        try (URLClassLoader loader = new URLClassLoader(new URL[] {room.toUri().toURL()})) {
            return (int[]) loader.loadClass("Example").getMethod("run").invoke(null);
        } finally {
            Files.deleteIfExists(source);
            Files.deleteIfExists(room.resolve("Example.class"));
            Files.deleteIfExists(room);
        }
    }

    private void everyCallIsTold() {
        for (Method method : HashSigner.class.getDeclaredMethods()) {
            if (Modifier.isPublic(method.getModifiers())) {
                String name = method.getName();
                due.is("README.md's table tells " + name, readme.contains("\n| `" + name + "(") ? 1 : 0, 1);
                due.is("README.md's example has " + name, readme.contains("\nx." + name + "(") ? 1 : 0, 1);
            }
        }
    }

    private void everyTestIsTold() throws IOException {
        try (DirectoryStream<Path> tests = Files.newDirectoryStream(Path.of("src/test/java"), "*Test.java")) {
            for (Path test : tests) {
                String name = test.getFileName().toString().replace(".java", "");
                due.is("README.md tells " + name, readme.contains("`" + name + "`") ? 1 : 0, 1);
            }
        }
    }
}
