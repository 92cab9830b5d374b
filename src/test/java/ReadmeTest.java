import java.io.IOException;
import java.lang.reflect.Method;
import java.lang.reflect.Modifier;
import java.net.URL;
import java.net.URLClassLoader;
import java.nio.file.Files;
import java.nio.file.Path;
import java.util.List;
import java.util.regex.Matcher;
import java.util.regex.Pattern;
import java.util.stream.Stream;
import javax.tools.JavaCompiler;
import javax.tools.ToolProvider;

/** README.md names every call, and its example answers what its comments say. */
public final class ReadmeTest {
    private static final Checks CHECKS = new Checks();
    private static final Pattern ANSWERED =
            Pattern.compile("\\s*(int \\w+ = )?(g\\.[^;]*);\\s*//.*?answers (-?\\w+)\\s*");
    private static final Pattern BLOCK = Pattern.compile("```java\\n(.*?)```", Pattern.DOTALL);

    public static void main(String[] args) throws IOException, ReflectiveOperationException {
        String text = Files.readString(Path.of("README.md"));
        for (Method m : ImageGcds.class.getDeclaredMethods()) {
            boolean open = !Modifier.isPrivate(m.getModifiers());
            CHECKS.same("README.md names " + m.getName(), true, !open || text.contains("`" + m.getName() + "("));
        }
        Matcher block = BLOCK.matcher(text);
        boolean there = block.find();
        CHECKS.same("README.md has an example", true, there);
        if (there) {
            runExample(block.group(1));
        }
        CHECKS.end("ReadmeTest");
    }

    /** Called by the example for each answer that it tells. */
    public static void due(String call, String want, Object got) {
        CHECKS.same("in README.md " + call, want, String.valueOf(got));
    }

    /** Each answer that a comment tells becomes a check; other lines stay as they are. */
    private static String programOf(String example) {
        StringBuilder program = new StringBuilder("public final class Example { public static void run() {\n");
        for (String line : example.lines().toList()) {
            Matcher told = ANSWERED.matcher(line);
            if (!told.matches()) {
                program.append(line).append('\n');
                continue;
            }
            String call = told.group(2);
            if (told.group(1) != null) {
                program.append(told.group(1)).append(call).append(";\n");
                call = told.group(1).split(" ")[1];
            }
            program.append("ReadmeTest.due(\"").append(told.group(2)).append("\", \"").append(told.group(3));
            program.append("\", ").append(call).append(");\n");
        }
        return program.append("} }\n").toString();
    }

    private static void runExample(String example) throws IOException, ReflectiveOperationException {
        Path folder = Files.createTempDirectory("readme");
        try {
            Path file = folder.resolve("Example.java");
            Files.writeString(file, programOf(example));
            JavaCompiler compiler = ToolProvider.getSystemJavaCompiler();
            int code = compiler.run(null, null, null,
                    "-cp", System.getProperty("java.class.path"), "-d", folder.toString(), file.toString());
            CHECKS.same("compiling the example of README.md", 0, code);
            if (code == 0) {
                try (URLClassLoader loader = new URLClassLoader(new URL[] {folder.toUri().toURL()})) {
                    loader.loadClass("Example").getMethod("run").invoke(null);
                }
            }
        } finally {
            remove(folder);
        }
    }

    private static void remove(Path folder) throws IOException {
        List<Path> files;
        try (Stream<Path> listed = Files.list(folder)) {
            files = listed.toList();
        }
        for (Path file : files) {
            Files.delete(file);
        }
        Files.delete(folder);
    }
}
