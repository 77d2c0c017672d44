import java.lang.reflect.Method;
import java.net.URL;
import java.net.URLClassLoader;
import java.nio.charset.StandardCharsets;
import java.nio.file.Files;
import java.nio.file.Path;
import java.util.regex.Matcher;
import java.util.regex.Pattern;
import javax.tools.ToolProvider;

/** README.md's example compiles and answers what its comments say; README.md names every call. */
public final class ReadmeTest {
    private static final Due D = new Due("ReadmeTest");
    private static final Pattern EXAMPLE = Pattern.compile("(?s)```java\n(.*?)```");
    private static final Pattern ANSWERED = Pattern.compile("(?m)^(x\\.\\w+\\(.*\\)); +// (-?\\d+)(:.*)?$");

    public static void main(String[] args) throws Exception {
        String readme = Files.readString(Path.of("README.md"), StandardCharsets.UTF_8);
        Matcher example = EXAMPLE.matcher(readme);
        D.due("README.md has an example", example.find() ? 1 : 0, 1);
        namesEveryCall(readme);
        runExample(example.group(1));
        D.end();
    }

    private static void namesEveryCall(String readme) {
        for (Method m : ChildCourt.class.getMethods()) {
            if (m.getDeclaringClass() == ChildCourt.class) {
                D.due("README.md names " + m.getName(), readme.contains("`" + m.getName() + "(") ? 1 : 0, 1);
            }
        }
    }

    /** The example becomes a class of its own, in which each answered call is handed to due(). */
    private static void runExample(String lines) throws Exception {
        Matcher calls = ANSWERED.matcher(lines);
        D.due("calls with an answer", calls.results().count() > 20 ? 1 : 0, 1);
        String body = calls.replaceAll("ReadmeTest.due(\"$1\", $1, $2L);");
        Path folder = Files.createTempDirectory("readme");
        Path source = folder.resolve("ReadmeExample.java");
        Files.writeString(source, "public class ReadmeExample { public static void run() {\n" + body + "} }\n");
        int failed = ToolProvider.getSystemJavaCompiler().run(null, null, null,
            "-cp", System.getProperty("java.class.path"), "-d", folder.toString(), source.toString());
        D.due("the example does not compile", failed, 0);
        folder.toFile().deleteOnExit();
        source.toFile().deleteOnExit();
        folder.resolve("ReadmeExample.class").toFile().deleteOnExit();
        if (failed == 0) {
            try (URLClassLoader loader = new URLClassLoader(new URL[] {folder.toUri().toURL()})) {
                loader.loadClass("ReadmeExample").getMethod("run").invoke(null);
            }
        }
    }

    public static void due(String call, long got, long want) {
        D.due(call, got, want);
    }
}
