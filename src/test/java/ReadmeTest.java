import java.io.ByteArrayOutputStream;
import java.io.File;
import java.io.IOException;
import java.nio.charset.StandardCharsets;
import java.nio.file.Files;
import java.nio.file.Path;
import javax.tools.ToolProvider;

/** README.md tells how to use the program: its example compiles, and prints what is told there. */
public final class ReadmeTest {
    private ReadmeTest() {
    }

    public static void main(String[] arguments) throws IOException, InterruptedException {
        String readme = Files.readString(Path.of("README.md"));
        Path place = Files.createTempDirectory("readme");
        Path source = place.resolve("Demo.java");
        Files.writeString(source, block(readme, "java"));
        ByteArrayOutputStream errors = new ByteArrayOutputStream();
        int failed = ToolProvider.getSystemJavaCompiler().run(null, null, errors, "-d", place.toString(),
                "src/main/java/LayoutPress.java", source.toString());
        Check.same("failures to compile: " + errors, failed, 0);
        Check.sameText("what the example prints", run(place), block(readme, "text"));
        for (File file : place.toFile().listFiles()) {
            Files.delete(file.toPath());
        }
        Files.delete(place);
        callsAreNamed(readme);
        testsAreNamed(readme);
        Check.end();
    }

    private static String block(String readme, String language) {
        String begin = "```" + language + "\n";
        int from = readme.indexOf(begin);
        int until = readme.indexOf("```", from + begin.length());
        Check.that("a block of " + language, from >= 0 && until >= 0);
        return from < 0 || until < 0 ? "" : readme.substring(from + begin.length(), until);
    }

    private static String run(Path place) throws IOException, InterruptedException {
        String java = System.getProperty("java.home") + File.separator + "bin" + File.separator + "java";
        Process process = new ProcessBuilder(java, "-cp", place.toString(), "Demo").redirectErrorStream(true).start();
        String output = new String(process.getInputStream().readAllBytes(), StandardCharsets.UTF_8);
        Check.same("exit code of the example", process.waitFor(), 0);
        return output.replace(System.lineSeparator(), "\n");
    }

    private static void callsAreNamed(String readme) throws IOException {
        for (String line : Files.readAllLines(Path.of("../shared/DOC.md"))) {
            if (line.startsWith("    public int ") || line.startsWith("    public char ")) {
                String name = line.strip().replaceAll("public \\w+ (\\w+).*", "$1");
                Check.that("README.md names " + name, readme.contains("`" + name + "`"));
            }
        }
    }

    private static void testsAreNamed(String readme) {
        for (File file : new File("src/test/java").listFiles()) {
            String name = file.getName().replace(".java", "");
            if (name.endsWith("Test")) {
                Check.that("README.md names " + name, readme.contains("| " + name + " |"));
            }
        }
    }
}
