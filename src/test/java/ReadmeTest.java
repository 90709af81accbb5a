import java.io.IOException;
import java.lang.reflect.Method;
import java.lang.reflect.Modifier;
import java.net.URL;
import java.net.URLClassLoader;
import java.nio.file.Files;
import java.nio.file.Path;
import java.util.ArrayList;
import java.util.List;
import java.util.regex.Matcher;
import java.util.regex.Pattern;
import javax.tools.ToolProvider;

/** README.md tells of every call, and the calls of its examples answer what stands behind them. */
public final class ReadmeTest {
    private static final Path README = Path.of("README.md");
    private static final Pattern EXAMPLE = Pattern.compile("```java\n(.*?)```", Pattern.DOTALL);
    private static final Pattern LINE =
        Pattern.compile("((?:int|DeclareStates) (\\w+) = )?(.*?);(\\s*// (-?\\d+|true|false)(: .*)?)?");
    private static final Checks C = new Checks();

    public static void main(String[] args) throws IOException, ReflectiveOperationException {
        String readme = Files.readString(README);
        tellsOfEveryCall(readme);
        int examples = 0;
        Matcher example = EXAMPLE.matcher(readme);
        while (example.find()) {
            answersAsTold(example.group(1));
            examples++;
        }
        C.due("README.md has examples", true, examples > 0);
        C.end();
    }

    private static void tellsOfEveryCall(String readme) {
        for (Method one : DeclareStates.class.getDeclaredMethods()) {
            if (Modifier.isPublic(one.getModifiers())) {
                C.due("README.md tells of " + one.getName(), true, readme.contains("| `" + one.getName() + "("));
            }
        }
    }

    private static void answersAsTold(String example) throws IOException, ReflectiveOperationException {
        StringBuilder body = new StringBuilder();
        List<String> calls = new ArrayList<>();
        List<String> wanted = new ArrayList<>();
        for (String line : example.split("\n")) {
            Matcher parts = LINE.matcher(line);
            boolean understood = parts.matches();
            String name = understood ? parts.group(2) : null;
            String want = understood ? parts.group(5) : null;
            if (name == null && want == null) {
                C.report("README.md has a line without an answer: " + line);
                continue;
            }
            if (name != null) {
                body.append(parts.group(1)).append(parts.group(3)).append(";\n");
            }
            if (want != null) {
                body.append("got.add(\"\" + (").append(name != null ? name : parts.group(3)).append("));\n");
                calls.add("README.md: " + parts.group(3));
                wanted.add(want);
            }
        }
        List<?> got = answersOf(body.toString());
        C.due("README.md: answers", wanted.size(), got.size());
        for (int i = 0; i < wanted.size() && i < got.size(); i++) {
            C.due(calls.get(i), wanted.get(i), String.valueOf(got.get(i)));
        }
    }

    // Compiled and loaded here, so that what stands in README.md is itself what runs.
    private static List<?> answersOf(String body) throws IOException, ReflectiveOperationException {
        Path room = Files.createTempDirectory("readme");
        Path source = room.resolve("Example.java");
        Path compiled = room.resolve("Example.class");
        Files.writeString(source, "public final class Example {\n"
            + "public static java.util.List<String> answers() {\n"
            + "java.util.List<String> got = new java.util.ArrayList<>();\n" + body + "return got;\n}\n}\n");
        int refused = ToolProvider.getSystemJavaCompiler().run(null, null, null,
            "-cp", System.getProperty("java.class.path"), "-d", room.toString(), source.toString());
        try (URLClassLoader loader = new URLClassLoader(new URL[] {room.toUri().toURL()})) {
            return refused != 0 ? List.of() : (List<?>) loader.loadClass("Example").getMethod("answers").invoke(null);
        } finally {
            Files.deleteIfExists(compiled);
            Files.deleteIfExists(source);
            Files.deleteIfExists(room);
        }
    }
}
