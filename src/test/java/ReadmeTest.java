import java.io.IOException;
import java.lang.reflect.Method;
import java.lang.reflect.Modifier;
import java.net.URL;
import java.net.URLClassLoader;
import java.nio.charset.StandardCharsets;
import java.nio.file.Files;
import java.nio.file.Path;
import java.util.Comparator;
import java.util.List;
import java.util.regex.Matcher;
import java.util.regex.Pattern;
import java.util.stream.Collectors;
import java.util.stream.Stream;
import javax.tools.ToolProvider;

/** README's example is compiled and run as it stands there, and no call is left out of README. */
public final class ReadmeTest extends Bench {
    private static final Pattern EXAMPLE = Pattern.compile("(?s)```java\n(.*?)```");
    private static final Pattern ANSWERED = Pattern.compile("(x\\.\\w+\\(.*\\));\\s*// (-?\\d+): .*");
    private static final int FEWEST_ANSWERS = 15;

    /** The example's program calls this, so that it has to be seen from there. */
    public static void answered(String call, long got, long want) {
        due("README: " + call, got, want);
    }

    private static String programOf(String example) {
        StringBuilder program = new StringBuilder("public final class ReadmeExample { public static void run() {\n");
        int answers = 0;
        for (String line : example.split("\n")) {
            Matcher match = ANSWERED.matcher(line);
            if (match.matches()) {
                answers++;
                String call = match.group(1);
                line = "ReadmeTest.answered(\"" + call + "\", " + call + ", " + match.group(2) + ");";
            }
            program.append(line).append('\n');
        }
        due("README has enough answers", answers >= FEWEST_ANSWERS ? 1 : 0, 1);
        return program.append("} }\n").toString();
    }

    private static void runExample(String readme, Path folder) throws IOException, ReflectiveOperationException {
        Matcher match = EXAMPLE.matcher(readme);
        boolean isThere = match.find();
        due("README has an example", isThere ? 1 : 0, 1);
        if (!isThere) return;
        Path source = folder.resolve("ReadmeExample.java");
        Files.writeString(source, programOf(match.group(1)), StandardCharsets.US_ASCII);
        int rc = ToolProvider.getSystemJavaCompiler().run(null, null, null,
            "-proc:none", "-cp", System.getProperty("java.class.path"), "-d", folder.toString(), source.toString());
        due("README's example compiles", rc, 0);
        if (rc != 0) return;
        try (URLClassLoader loader = new URLClassLoader(new URL[] {folder.toUri().toURL()})) {
            loader.loadClass("ReadmeExample").getMethod("run").invoke(null);
        }
    }

    private static void remove(Path folder) throws IOException {
        List<Path> all;
        try (Stream<Path> walk = Files.walk(folder)) {
            all = walk.sorted(Comparator.reverseOrder()).collect(Collectors.toList());
        }
        for (Path one : all) Files.delete(one);
    }

    private static void namesEachCall(String readme) {
        for (Method method : CorpseTales.class.getDeclaredMethods()) {
            if (!Modifier.isPublic(method.getModifiers())) continue;
            due("README's table has " + method.getName(), readme.contains("`" + method.getName() + "(") ? 1 : 0, 1);
        }
    }

    public static void main(String[] args) throws IOException, ReflectiveOperationException {
        String readme = Files.readString(Path.of("README.md"), StandardCharsets.UTF_8);
        Path folder = Files.createTempDirectory("readme");
        try {
            runExample(readme, folder);
        } finally {
            remove(folder);
        }
        namesEachCall(readme);
        end();
    }
}
