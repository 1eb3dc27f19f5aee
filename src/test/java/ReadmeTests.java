import java.io.ByteArrayOutputStream;
import java.io.File;
import java.io.PrintStream;
import java.net.URL;
import java.net.URLClassLoader;
import java.nio.charset.StandardCharsets;
import java.nio.file.Files;
import java.nio.file.Path;
import java.util.Comparator;
import java.util.List;
import java.util.stream.Stream;
import javax.tools.ToolProvider;

/** The example of README.md prints what README.md says it prints. Runs in the project's directory, as .ci/run does. */
public final class ReadmeTests {
    public static void main(String[] args) throws Exception {
        List<String> lines = Files.readAllLines(Path.of("README.md"), StandardCharsets.UTF_8);
        String want = block(lines, "```text");
        String got = output(block(lines, "```java"));
        boolean asDue = !want.isEmpty() && got.equals(want);
        System.out.println(asDue ? "the example is as due" : "the example printed:\n" + got + "due is:\n" + want);
        if (!asDue) {
            System.exit(1);
        }
    }

    /** The lines of the first block that begins so. */
    private static String block(List<String> lines, String begin) {
        StringBuilder block = new StringBuilder();
        int start = lines.indexOf(begin);
        for (int i = start + 1; start >= 0 && i < lines.size() && !lines.get(i).equals("```"); i++) {
            block.append(lines.get(i)).append('\n');
        }
        return block.toString();
    }

    private static String output(String program) throws Exception {
        Path directory = Files.createTempDirectory("readme");
        try {
            Path file = Files.writeString(directory.resolve("Example.java"), program);
            int failed = ToolProvider.getSystemJavaCompiler().run(null, null, null,
                    "-cp", System.getProperty("java.class.path"), "-d", directory.toString(), file.toString());
            return failed == 0 ? run(directory) : "nothing: it does not compile\n";
        } finally {
            remove(directory);
        }
    }

    private static String run(Path directory) throws Exception {
        PrintStream console = System.out;
        ByteArrayOutputStream printed = new ByteArrayOutputStream();
        try (URLClassLoader loader = new URLClassLoader(new URL[] {directory.toUri().toURL()})) {
            System.setOut(new PrintStream(printed, true, StandardCharsets.UTF_8));
            loader.loadClass("Example").getMethod("main", String[].class).invoke(null, (Object) new String[0]);
        } finally {
            System.setOut(console);
        }
        return printed.toString(StandardCharsets.UTF_8).replace(System.lineSeparator(), "\n");
    }

    private static void remove(Path directory) throws Exception {
        try (Stream<Path> paths = Files.walk(directory)) {
            paths.sorted(Comparator.reverseOrder()).map(Path::toFile).forEach(File::delete);
        }
    }
}
