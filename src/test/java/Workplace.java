import java.io.IOException;
import java.nio.file.Files;
import java.nio.file.Path;
import java.nio.file.StandardCopyOption;
import java.util.Comparator;
import java.util.List;
import java.util.stream.Stream;

/** A directory for a while, with files in it and a command that runs there beside those of other workplaces. */
final class Workplace {
    /** The lines are those that the command answers; what a machine's javac or java tells of itself is an error. */
    record Outcome(int exitCode, List<String> lines, String errors) {
    }

    private final Path root = Files.createTempDirectory("workplace");
    private final Path output = root.resolve("output");
    private final Path errors = root.resolve("errors");
    private Process process;

    Workplace() throws IOException {
    }

    void write(String file, String text) throws IOException {
        Path path = root.resolve(file);
        Files.createDirectories(path.getParent());
        Files.writeString(path, text);
    }

    /** Copies a file, or all that is in a directory. */
    void copy(String from, String to) throws IOException {
        Path source = Path.of(from);
        try (Stream<Path> all = Files.walk(source)) {
            for (Path path : all.toList()) {
                Path target = root.resolve(to).resolve(source.relativize(path).toString());
                Files.createDirectories(target.getParent());
                Files.copy(path, target, StandardCopyOption.REPLACE_EXISTING);
            }
        }
    }

    void start(String directory, String... command) throws IOException {
        ProcessBuilder builder = new ProcessBuilder(command);
        builder.directory(root.resolve(directory).toFile());
        builder.redirectOutput(output.toFile()).redirectError(errors.toFile());
        process = builder.start();
    }

    /** Waits for the command; the directory is gone then. */
    Outcome end() throws IOException, InterruptedException {
        int exitCode = process.waitFor();
        Outcome outcome = new Outcome(exitCode, Files.readAllLines(output), Files.readString(errors));
        try (Stream<Path> all = Files.walk(root)) {
            for (Path path : all.sorted(Comparator.reverseOrder()).toList()) {
                Files.delete(path);
            }
        }
        return outcome;
    }
}
