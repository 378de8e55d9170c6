import java.io.IOException;
import java.lang.reflect.Method;
import java.lang.reflect.Modifier;
import java.nio.file.DirectoryStream;
import java.nio.file.Files;
import java.nio.file.Path;
import java.util.ArrayList;
import java.util.List;
import java.util.regex.Matcher;
import java.util.regex.Pattern;

/** What README.md shows must be so: its example answers what stands behind each line, and it names every call. */
public final class ReadmeTests {
    private static final Checks CHECKS = new Checks();
    private static final Path README = Path.of("README.md");
    private static final Pattern EXAMPLE = Pattern.compile("(?s)```java\n(.*?)```");
    /** A printed line, with what it prints up to a remark in brackets. */
    private static final Pattern PRINTED = Pattern.compile("println\\(.*\\); +// (\\S+)");

    private ReadmeTests() {
    }

    public static void main(String[] args) throws IOException, InterruptedException {
        String readme = Files.readString(README);
        CHECKS.about("README.md");
        Matcher example = EXAMPLE.matcher(readme);
        int examples = 0;
        while (example.find()) {
            examples++;
            run(example.group(1));
        }
        CHECKS.yes(examples > 0, "has an example");
        for (Method method : CalculatedSheet.class.getDeclaredMethods()) {
            if (Modifier.isPublic(method.getModifiers())) {
                CHECKS.yes(readme.contains("`" + method.getName() + "`"), "names " + method.getName());
            }
        }
        CHECKS.yes(readme.contains("\n.ci/run\n"), "tells how the tests are run");
        tellsOfEachTest(readme);
        CHECKS.end();
    }

    private static void tellsOfEachTest(String readme) throws IOException {
        try (DirectoryStream<Path> files = Files.newDirectoryStream(Path.of("src/test/java"), "*Tests.java")) {
            for (Path file : files) {
                String name = file.getFileName().toString().replace(".java", "");
                CHECKS.yes(readme.contains("- `" + name + "`"), "tells what " + name + " is");
            }
        }
    }

    private static void run(String example) throws IOException, InterruptedException {
        List<String> due = new ArrayList<>();
        Matcher printed = PRINTED.matcher(example);
        while (printed.find()) {
            due.add(printed.group(1));
        }
        Path directory = Files.createTempDirectory("readme");
        Path file = directory.resolve("Example.java");
        try {
            Files.writeString(file, example);
            CHECKS.yes(due.size() > 0, "the example tells what it prints");
            CHECKS.due(due, printedBy(file), "what the example prints");
        } finally {
            Files.deleteIfExists(file);
            Files.deleteIfExists(directory);
        }
    }

    private static List<String> printedBy(Path file) throws IOException, InterruptedException {
        String java = Path.of(System.getProperty("java.home"), "bin", "java").toString();
        Process process = new ProcessBuilder(java, "-cp", System.getProperty("java.class.path"), file.toString())
            .redirectErrorStream(true).start();
        String output = new String(process.getInputStream().readAllBytes());
        CHECKS.due(0, process.waitFor(), "how the example ends");
        return List.of(output.strip().split("\n"));
    }
}
