import java.io.IOException;
import java.net.URL;
import java.net.URLClassLoader;
import java.nio.file.Files;
import java.nio.file.Path;
import java.util.regex.Matcher;
import java.util.regex.Pattern;
import javax.tools.ToolProvider;

/** The examples of README.md, compiled as they stand there; to be run at the project's root. */
public final class ReadmeTest {
    private static final String NAME = "ReadmeExamples";
    private static final Pattern EXAMPLE = Pattern.compile("(?s)```java\n(.*?)```");
    /** A call on a line of its own, and the number that it is said to answer. */
    private static final Pattern ANSWER = Pattern.compile("(?m)^ *(lift\\.\\w+\\(.*\\)); *// (-?\\d+).*$");

    public static void main(String[] args) throws Exception {
        String body = examples(Files.readString(Path.of("README.md")));
        Path out = Files.createTempDirectory("readme");
        try {
            if (compiles(body, out)) {
                runs(out);
            }
        } finally {
            Files.deleteIfExists(out.resolve(NAME + ".java"));
            Files.deleteIfExists(out.resolve(NAME + ".class"));
            Files.deleteIfExists(out);
        }
        Check.end("ReadmeTest");
    }

    /** One behind another, with each call that tells its answer held against it. */
    private static String examples(String readme) {
        StringBuilder body = new StringBuilder();
        Matcher found = EXAMPLE.matcher(readme);
        while (found.find()) {
            Check.holds("each example tells an answer", ANSWER.matcher(found.group(1)).find());
            body.append(ANSWER.matcher(found.group(1)).replaceAll("Check.due(\"README.md: $1\", $1, $2);"));
        }
        Check.holds("there are examples", body.length() > 0);
        return body.toString();
    }

    private static boolean compiles(String body, Path out) throws IOException {
        Path source = out.resolve(NAME + ".java");
        Files.writeString(source, "public final class " + NAME + " {\npublic static void main(String[] args) {\n" + body + "}\n}\n");
        int failed = ToolProvider.getSystemJavaCompiler().run(null, null, null, "-cp",
            System.getProperty("java.class.path"), "-d", out.toString(), source.toString());
        Check.due("README.md compiles", failed, 0);
        return failed == 0;
    }

    private static void runs(Path out) throws Exception {
        try (URLClassLoader loader = new URLClassLoader(new URL[] {out.toUri().toURL()})) {
            loader.loadClass(NAME).getMethod("main", String[].class).invoke(null, (Object) new String[0]);
        }
    }
}
