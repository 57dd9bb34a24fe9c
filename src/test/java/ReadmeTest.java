import java.io.IOException;
import java.lang.reflect.InvocationTargetException;
import java.net.URL;
import java.net.URLClassLoader;
import java.nio.file.Files;
import java.nio.file.Path;
import java.util.regex.Matcher;
import java.util.regex.Pattern;
import java.util.stream.Stream;
import javax.tools.JavaCompiler;
import javax.tools.ToolProvider;

/** The examples of README.md, compiled and run as they stand there; a call's answer is the number behind it. */
public final class ReadmeTest {
    private static final Check C = new Check("ReadmeTest");
    private static final Pattern BLOCK = Pattern.compile("(?s)```java\n(.*?)```");
    private static final Pattern ANSWERED = Pattern.compile("(x\\.\\w+\\(.*\\)); +// (-?\\d+)(:.*)?");

    public static void main(String[] args) throws IOException, ReflectiveOperationException {
        String readme = Files.readString(Path.of(System.getProperty("twowidths.readme", "README.md")));
        Path out = Files.createTempDirectory("readme");
        try {
            Path source = out.resolve("Example.java");
            Files.writeString(source, program(readme));
            boolean compiles = compiles(source, out);
            C.due("the examples compile", compiles);
            if (compiles) {
                run(out);
            }
        } finally {
            clear(out);
        }
        C.end();
    }

    /** The example's own calls come here. */
    public static void answered(String call, long got, long due) {
        C.due(call, got, due);
    }

    private static String program(String readme) {
        StringBuilder b = new StringBuilder("public final class Example {\n");
        b.append("public static void main(String[] args) {\n");
        int calls = 0;
        Matcher block = BLOCK.matcher(readme);
        while (block.find()) {
            for (String line : block.group(1).split("\n")) {
                Matcher answered = ANSWERED.matcher(line);
                if (answered.matches()) {
                    String call = answered.group(1);
                    b.append("ReadmeTest.answered(\"").append(call).append("\", ").append(call).append(", ")
                        .append(answered.group(2)).append("L);\n");
                    calls++;
                } else {
                    C.due("an answer is told: " + line, !line.contains("//"));
                    b.append(line).append("\n");
                }
            }
        }
        C.due("calls with answers", calls > 20);
        return b.append("}\n}\n").toString();
    }

    private static boolean compiles(Path source, Path out) {
        JavaCompiler compiler = ToolProvider.getSystemJavaCompiler();
        String classes = System.getProperty("java.class.path");
        return compiler != null
            && compiler.run(null, null, null, "-cp", classes, "-d", out.toString(), source.toString()) == 0;
    }

    private static void run(Path out) throws IOException, ReflectiveOperationException {
        try (URLClassLoader loader = new URLClassLoader(new URL[] {out.toUri().toURL()})) {
            loader.loadClass("Example").getMethod("main", String[].class).invoke(null, (Object) new String[0]);
        } catch (InvocationTargetException e) {
            C.due("the examples end: " + e.getCause(), false);
        }
    }

    private static void clear(Path out) throws IOException {
        try (Stream<Path> files = Files.list(out)) {
            for (Path file : files.toList()) {
                Files.delete(file);
            }
        }
        Files.delete(out);
    }
}
