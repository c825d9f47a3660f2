import java.io.IOException;
import java.lang.reflect.Method;
import java.lang.reflect.Modifier;
import java.net.URL;
import java.net.URLClassLoader;
import java.nio.file.Files;
import java.nio.file.Path;
import java.util.regex.Matcher;
import java.util.regex.Pattern;
import javax.tools.ToolProvider;

/** The examples of README.md are compiled as they stand there; each row must answer the number behind it. */
public final class ReadmeTest {
    private static final Pattern BLOCK = Pattern.compile("```java\n(.*?)```", Pattern.DOTALL);
    private static final Pattern ROW = Pattern.compile("((?:organ\\.|tell\\().*); +// (-?\\d+)(?:: .*|; .*)?");
    private static final String FIRST = "ChurchOrgan organ = new ChurchOrgan();";
    private static final String NAME = "ReadmeExamples";

    private static final Check check = new Check();

    public static void main(String[] args) throws Exception {
        String source = sourceOf(Files.readString(Path.of("README.md")));
        run(source);
        for (Method m : ChurchOrgan.class.getDeclaredMethods()) {
            if (Modifier.isPublic(m.getModifiers())) {
                check.due("README.md has an example of " + m.getName(), source.contains("organ." + m.getName() + "(") ? 1 : 0, 1);
            }
        }
        check.finish();
    }

    /** Called by the examples. */
    public static void due(String row, int answer, int number) {
        check.due("README.md: " + row, answer, number);
    }

    private static String sourceOf(String page) {
        StringBuilder helpers = new StringBuilder();
        StringBuilder examples = new StringBuilder();
        Matcher block = BLOCK.matcher(page);
        while (block.find()) {
            if (block.group(1).startsWith("static ")) helpers.append(block.group(1));
            else examples.append("{\n").append(example(block.group(1).split("\n"))).append("}\n");
        }
        return "public final class " + NAME + " {\n" + helpers + "public static void all() {\n" + examples + "}\n}\n";
    }

    private static String example(String[] rows) {
        if (!rows[0].equals(FIRST)) throw new IllegalStateException("an example begins with a new object, not " + rows[0]);
        StringBuilder code = new StringBuilder(rows[0]).append('\n');
        for (int i = 1; i < rows.length; i++) {
            Matcher row = ROW.matcher(rows[i]);
            if (!row.matches()) throw new IllegalStateException("a row without its answer: " + rows[i]);
            String quoted = row.group(1).replace("\"", "\\\"");
            code.append("ReadmeTest.due(\"").append(quoted).append("\", ").append(row.group(1)).append(", ")
                .append(row.group(2)).append(");\n");
        }
        return code.toString();
    }

    private static void run(String source) throws Exception {
        Path directory = Files.createTempDirectory("readme");
        Path file = directory.resolve(NAME + ".java");
        Path made = directory.resolve(NAME + ".class");
        try {
            Files.writeString(file, source);
            int compiled = ToolProvider.getSystemJavaCompiler().run(null, null, null,
                "-d", directory.toString(), "-cp", System.getProperty("java.class.path"), file.toString());
            check.due("the compiler of README.md's examples", compiled, 0);
            if (compiled == 0) {
                try (URLClassLoader loader = new URLClassLoader(new URL[] {directory.toUri().toURL()})) {
                    loader.loadClass(NAME).getMethod("all").invoke(null);
                }
            }
        } finally {
            clear(file, made, directory);
        }
    }

    private static void clear(Path... paths) throws IOException {
        for (Path path : paths) Files.deleteIfExists(path);
    }
}
