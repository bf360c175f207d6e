import java.io.IOException;
import java.nio.file.Files;
import java.nio.file.Path;
import java.util.Comparator;
import java.util.List;
import java.util.stream.Stream;

/** A directory of its own, in which a command of README.md is run as a reader would run it. */
final class Scratch {
    private final Path root;
    private final Path home;
    private Process process;

    /** The command runs in the directory main of the scratch, beside which others may stand. */
    Scratch() throws IOException {
        root = Files.createTempDirectory("finding-aid");
        home = Files.createDirectories(root.resolve("main"));
    }

    Scratch write(String name, String content) throws IOException {
        Path path = home.resolve(name);
        Files.createDirectories(path.getParent());
        Files.writeString(path, content);
        return this;
    }

    /** Copies a file of the project to the same place, and leaves it executable if it was. */
    Scratch copy(String name) throws IOException {
        Path path = home.resolve(name);
        Files.createDirectories(path.getParent());
        Files.copy(Path.of(name), path, java.nio.file.StandardCopyOption.COPY_ATTRIBUTES);
        return this;
    }

    Scratch start(String commands) throws IOException {
        process = new ProcessBuilder("sh", "-e", "-c", commands).directory(home.toFile())
            .redirectErrorStream(true).redirectOutput(root.resolve("output").toFile()).start();
        return this;
    }

    int exitCode() throws InterruptedException {
        return process.waitFor();
    }

    /** What the commands printed, when they have ended. */
    List<String> lines() throws IOException, InterruptedException {
        process.waitFor();
        return Files.readAllLines(root.resolve("output"));
    }

    void delete() throws IOException {
        try (Stream<Path> all = Files.walk(root)) {
            for (Path path : all.sorted(Comparator.reverseOrder()).toList()) {
                Files.delete(path);
            }
        }
    }
}
