import java.io.IOException;
import java.nio.file.Files;
import java.nio.file.Path;
import java.util.List;
import javax.tools.ToolProvider;

/** The example of README.md compiles as it stands there and prints what README.md says. */
public final class ReadmeTest {
    private static final Path README = Path.of("README.md");
    private static final Path CLASS = Path.of("src/main/java/SealBox.java");

    public static void main(String[] args) throws IOException, InterruptedException {
        String readme = Files.readString(README);
        Path folder = Files.createTempDirectory("readme");
        Path example = folder.resolve("Example.java");
        Files.writeString(example, part(readme, "```java\n"));
        int compiled = ToolProvider.getSystemJavaCompiler().run(null, null, null,
                "-d", folder.toString(), CLASS.toString(), example.toString());
        Check.same("compiling the example", 0, compiled);
        Check.same("the example", part(readme, "```text\n"), printedBy("Example", folder));
        removeAll(folder);
        Check.end();
    }

    /** What stands between the first such opening and the end of that part. */
    private static String part(String readme, String opening) {
        int from = readme.indexOf(opening) + opening.length();
        int to = readme.indexOf("```", from);
        Check.same("README.md has a part " + opening.strip(), true, from >= opening.length() && to > from);
        return readme.substring(from, to);
    }

    private static String printedBy(String name, Path classes) throws IOException, InterruptedException {
        String java = Path.of(System.getProperty("java.home"), "bin", "java").toString();
        Process process = new ProcessBuilder(java, "-cp", classes.toString(), name)
                .redirectErrorStream(true).start();
        String printed = new String(process.getInputStream().readAllBytes());
        Check.same("the example's exit code", 0, process.waitFor());
        return printed;
    }

    private static void removeAll(Path folder) throws IOException {
        List<Path> files;
        try (var listed = Files.list(folder)) {
            files = listed.toList();
        }
        for (Path file : files) {
            Files.delete(file);
        }
        Files.delete(folder);
    }
}
