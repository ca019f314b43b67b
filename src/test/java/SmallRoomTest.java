import java.io.File;
import java.io.IOException;
import java.nio.charset.StandardCharsets;
import java.nio.file.Files;
import java.nio.file.Path;
import java.util.ArrayList;
import java.util.Comparator;
import java.util.List;
import java.util.stream.Stream;
import javax.tools.ToolProvider;

/**
 * What print() goes through in portions, it answers as what it goes through at once: the program
 * with room for a few states only, by chance against the reference, and against the whole program.
 */
public final class SmallRoomTest {
    private static final String ROOM = "MOST_STATES = 4096;";
    private static final int[] SMALL_ROOMS = {48, 200};
    private static final int DOCUMENTS = 120;

    private SmallRoomTest() {
    }

    public static void main(String[] arguments) throws IOException, InterruptedException {
        String whole = DearDocuments.answers(DOCUMENTS);
        Check.same("documents", whole.lines().count(), 3 * DOCUMENTS + 12);
        for (int room : SMALL_ROOMS) {
            Path place = Files.createTempDirectory("small");
            compile(place, room);
            Check.sameText("dear documents in a room of " + room,
                    run(place, "DearDocuments", String.valueOf(DOCUMENTS)), whole);
            String answers = run(place, "RandomTest", "600", String.valueOf(100000 * room));
            Check.that("documents by chance in a room of " + room + ": " + answers, answers.endsWith(" 0 wrong\n"));
            String parts = run(place, "PartsTest");
            Check.that("parts in a room of " + room + ": " + parts, parts.endsWith(" 0 wrong\n"));
            remove(place);
        }
        Check.end();
    }

    private static void compile(Path place, int room) throws IOException {
        String program = Files.readString(Path.of("src/main/java/LayoutPress.java"));
        String small = program.replace(ROOM, "MOST_STATES = " + room + ";");
        Check.that("the room is told once", small.length() == program.length() + String.valueOf(room).length() - 4);
        Path source = place.resolve("LayoutPress.java");
        Files.writeString(source, small);
        List<String> options = new ArrayList<>(List.of("-d", place.toString(), source.toString()));
        for (String name : List.of("DearDocuments", "PartsTest", "RandomTest", "Reference", "Answers", "Check")) {
            options.add("src/test/java/" + name + ".java");
        }
        int failed = ToolProvider.getSystemJavaCompiler().run(null, null, null, options.toArray(new String[0]));
        Check.same("failures to compile", failed, 0);
    }

    private static String run(Path place, String name, String... arguments) throws IOException, InterruptedException {
        String java = System.getProperty("java.home") + File.separator + "bin" + File.separator + "java";
        List<String> command = new ArrayList<>(List.of(java, "-cp", place.toString(), name));
        command.addAll(List.of(arguments));
        Process process = new ProcessBuilder(command).redirectErrorStream(true).start();
        String output = new String(process.getInputStream().readAllBytes(), StandardCharsets.UTF_8);
        Check.same("exit code of " + name, process.waitFor(), 0);
        return output;
    }

    private static void remove(Path place) throws IOException {
        try (Stream<Path> files = Files.walk(place)) {
            for (Path file : files.sorted(Comparator.reverseOrder()).toList()) {
                Files.delete(file);
            }
        }
    }
}
