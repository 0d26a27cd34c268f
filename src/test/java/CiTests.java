import java.io.IOException;
import java.nio.file.Files;
import java.nio.file.Path;
import java.nio.file.StandardCopyOption;
import java.util.Comparator;
import java.util.List;
import java.util.stream.Stream;

/** .ci/run on a small project: it runs each test of the project and of ../shared/tests, and fails if one fails. */
public final class CiTests {
    private static final Check CHECK = new Check();
    private static final Path TRIAL = Path.of("build/ci-trial").toAbsolutePath();
    private static final Path PROJECT = TRIAL.resolve("main");
    private static final String PASSES = "System.exit(LitmusHall.NONE + 1);";
    private static final String FAILS = "System.exit(1);";
    private static final String THROWS = "throw new IllegalStateException();";
    private static final String NO_JAVA = "this is none;";

    public static void main(String[] args) throws Exception {
        trial(List.of(PASSES, PASSES), List.of(PASSES), 0, "3 passed, 0 failed");
        trial(List.of(FAILS, PASSES), List.of(PASSES), 1, "2 passed, 1 failed");
        trial(List.of(PASSES), List.of(FAILS, PASSES), 1, "2 passed, 1 failed");
        trial(List.of(PASSES), List.of(THROWS), 1, "1 passed, 1 failed");
        trial(List.of(NO_JAVA), List.of(PASSES), 1, "1 passed, 1 failed");
        trial(List.of(), List.of(PASSES), 1, "no tests at");
        trial(List.of(PASSES), List.of(), 1, "no tests at");
        aTestOfAnEarlierRunIsNotRun();
        remove(TRIAL);
        CHECK.end();
    }

    private static void trial(List<String> own, List<String> shared, int exit, String lastLine) throws Exception {
        makeProject(own, shared);
        String output = run(exit);
        String[] lines = output.split("\n");
        CHECK.due("last line of\n" + output, lines[lines.length - 1].startsWith(lastLine), true);
    }

    // What an earlier run compiled stands there still: a test that no longer compiles must not pass by it.
    private static void aTestOfAnEarlierRunIsNotRun() throws Exception {
        makeProject(List.of(PASSES), List.of(PASSES));
        run(0);
        writeTest(PROJECT.resolve("src/test/java"), "Own", 0, NO_JAVA);
        run(1);
    }

    private static String run(int exit) throws Exception {
        // From another directory: the script finds its project and ../shared by itself.
        Process process = new ProcessBuilder(PROJECT.resolve(".ci/run").toString()).directory(Path.of("/").toFile())
            .redirectErrorStream(true).start();
        String output = new String(process.getInputStream().readAllBytes());
        CHECK.due("exit code of .ci/run that printed\n" + output, process.waitFor(), exit);
        return output;
    }

    private static void makeProject(List<String> own, List<String> shared) throws IOException {
        remove(TRIAL);
        Files.createDirectories(PROJECT.resolve(".ci"));
        Files.createDirectories(PROJECT.resolve("src/main/java"));
        Files.createDirectories(PROJECT.resolve("src/test/helper"));
        Files.copy(Path.of(".ci/run"), PROJECT.resolve(".ci/run"), StandardCopyOption.COPY_ATTRIBUTES);
        Files.writeString(PROJECT.resolve("src/main/java/LitmusHall.java"),
            "public final class LitmusHall { public static final int NONE = -1; }\n");
        writeTests(PROJECT.resolve("src/test/java"), "Own", own);
        writeTests(TRIAL.resolve("shared/tests"), "Shared", shared);
    }

    private static void writeTests(Path directory, String name, List<String> bodies) throws IOException {
        Files.createDirectories(directory);
        for (int i = 0; i < bodies.size(); i++) {
            writeTest(directory, name, i, bodies.get(i));
        }
    }

    private static void writeTest(Path directory, String name, int i, String body) throws IOException {
        Files.writeString(directory.resolve(name + i + ".java"),
            "public final class " + name + i + " { public static void main(String[] args) { " + body + " } }\n");
    }

    private static void remove(Path directory) throws IOException {
        if (!Files.exists(directory)) {
            return;
        }
        try (Stream<Path> paths = Files.walk(directory)) {
            for (Path path : paths.sorted(Comparator.reverseOrder()).toList()) {
                Files.delete(path);
            }
        }
    }
}
