import java.io.IOException;
import java.nio.file.Files;
import java.nio.file.Path;
import java.util.Comparator;
import java.util.List;
import java.util.stream.Stream;

/**
 * The script .ci/run, in small projects of its own: it ends with 0 if every test passes, and not else.
 * The class there is an empty one, so that this test tells about the script alone.
 */
public final class CiTest {
    private static final Check CHECK = new Check("CiTest");
    private static final String PASSES = "public static void main(String[] args) {}";
    private static final String FAILS = "public static void main(String[] args) { System.exit(1); }";
    private static final String NONSENSE = "this is no Java";
    private static final String WARNS = "static Object list = new java.util.ArrayList(); " + PASSES;

    private record Project(String name, boolean passes, Path root, Process process) {}

    public static void main(String[] args) throws IOException, InterruptedException {
        List<Project> projects = List.of(
                start("all pass", true, PASSES, PASSES, "tests/A.java"),
                start("an own one fails", false, FAILS, PASSES, "tests/A.java"),
                start("an own one has a warning", false, WARNS, PASSES, "tests/A.java"),
                start("a shared one fails", false, PASSES, FAILS, "tests/A.java"),
                start("a shared one in a directory below fails", false, PASSES, FAILS, "tests/below/A.java"),
                start("a shared one is no Java", false, PASSES, NONSENSE, "tests/A.java"),
                start("there is no shared one", false, PASSES, PASSES, "A.java"));
        for (Project project : projects) {
            boolean passed = project.process().waitFor() == 0;
            CHECK.due(project.name() + ": .ci/run passes", passed, project.passes());
            remove(project.root());
        }
        CHECK.end();
    }

    /** Tests that pass stand before and after the one that may not: it counts wherever it stands. */
    private static Project start(String name, boolean passes, String own, String shared, String sharedFile)
            throws IOException {
        Path root = Files.createTempDirectory("citest");
        write(root.resolve("main/src/main/java/SwapDesk.java"), "public final class SwapDesk {}");
        write(root.resolve("main/src/test/java/ATest.java"), "class ATest { " + PASSES + " }");
        write(root.resolve("main/src/test/java/BTest.java"), "class BTest { " + own + " }");
        write(root.resolve("main/src/test/java/CTest.java"), "class CTest { " + PASSES + " }");
        write(root.resolve("shared").resolve(sharedFile), "class A { " + shared + " }");
        if (sharedFile.startsWith("tests/")) {
            write(root.resolve("shared/tests/Z.java"), "class Z { " + PASSES + " }");
        }
        Path script = root.resolve("main/.ci/run");
        write(script, Files.readString(Path.of(".ci/run")));
        Process process = new ProcessBuilder("sh", script.toString())
                .redirectErrorStream(true)
                .redirectOutput(root.resolve("told").toFile())
                .start();
        return new Project(name, passes, root, process);
    }

    private static void write(Path file, String text) throws IOException {
        Files.createDirectories(file.getParent());
        Files.writeString(file, text);
    }

    private static void remove(Path root) throws IOException {
        try (Stream<Path> files = Files.walk(root)) {
            for (Path file : files.sorted(Comparator.reverseOrder()).toList()) {
                Files.delete(file);
            }
        }
    }
}
