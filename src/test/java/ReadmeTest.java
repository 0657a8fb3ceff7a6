import java.io.File;
import java.io.IOException;
import java.net.URL;
import java.net.URLClassLoader;
import java.nio.file.Files;
import java.nio.file.Path;
import java.util.Comparator;
import java.util.regex.Matcher;
import java.util.regex.Pattern;
import java.util.stream.Stream;
import javax.tools.ToolProvider;

/** The examples of README.md compile, and each call in them answers what stands behind it. */
public final class ReadmeTest {

    private static final Checks CHECKS = new Checks("ReadmeTest");
    private static final Pattern EXAMPLE = Pattern.compile("(?s)```java\n(.*?)```");
    private static final Pattern ANSWERED = Pattern.compile("(?m)^(x\\..*?\\)); +// (-?\\d+)\\b.*$");

    public static void main(String[] args) throws IOException, ReflectiveOperationException {
        StringBuilder program = new StringBuilder("public final class Examples {\n");
        int examples = 0;
        Matcher example = EXAMPLE.matcher(Files.readString(Path.of("README.md")));
        while (example.find()) {
            program.append("static void example").append(examples).append("() {\n");
            program.append(answers(example.group(1))).append("}\n");
            examples++;
        }
        CHECKS.holds("there are examples", examples > 0);
        program.append("public static void all() {\n");
        for (int each = 0; each < examples; each++) {
            program.append("example").append(each).append("();\n");
        }
        Path out = Files.createTempDirectory("examples");
        try {
            run(out, program.append("}\n}\n").toString());
        } finally {
            remove(out);
        }
        CHECKS.close();
    }

    /** Makes each line of an example that tells an answer a check of it. */
    private static String answers(String example) {
        long told = example.lines().filter(line -> line.contains("//")).count();
        Matcher answered = ANSWERED.matcher(example);
        CHECKS.due("the lines whose answer is checked", (int) answered.results().count(), (int) told);
        return answered.replaceAll(line -> Matcher.quoteReplacement("ReadmeTest.due(\"" + line.group(1) + "\", "
                + line.group(1) + ", " + line.group(2) + ");"));
    }

    /** Called by the examples, which another loader loads. */
    public static void due(String call, int got, int want) {
        CHECKS.due(call, got, want);
    }

    private static void run(Path out, String program) throws IOException, ReflectiveOperationException {
        Path file = out.resolve("Examples.java");
        Files.writeString(file, program);
        String classes = System.getProperty("java.class.path");
        int failed = ToolProvider.getSystemJavaCompiler().run(null, null, null, "-proc:none", "-cp", classes, "-d",
                out.toString(), file.toString());
        CHECKS.due("compiling the examples", failed, 0);
        if (failed == 0) {
            try (URLClassLoader loader = new URLClassLoader(new URL[] {out.toUri().toURL()})) {
                loader.loadClass("Examples").getMethod("all").invoke(null);
            }
        }
    }

    private static void remove(Path directory) throws IOException {
        try (Stream<Path> paths = Files.walk(directory)) {
            paths.sorted(Comparator.reverseOrder()).map(Path::toFile).forEach(File::delete);
        }
    }
}
