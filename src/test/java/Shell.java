import java.io.IOException;
import java.nio.charset.StandardCharsets;
import java.nio.file.Files;
import java.nio.file.Path;
import java.nio.file.StandardCopyOption;
import java.util.Comparator;
import java.util.List;
import java.util.stream.Collectors;
import java.util.stream.Stream;

/** Runs of commands in directories of their own, which are gone behind the test. */
final class Shell {
    final int exit;
    final String output;

    private Shell(int exit, String output) {
        this.exit = exit;
        this.output = output;
    }

    /** Stops at the first line that fails, as a reader who types them would. */
    static Shell run(Path directory, String lines) throws IOException, InterruptedException {
        Process process = new ProcessBuilder("sh", "-e", "-c", lines).directory(directory.toFile()).redirectErrorStream(true).start();
        process.getOutputStream().close();
        String output = new String(process.getInputStream().readAllBytes(), StandardCharsets.UTF_8);
        return new Shell(process.waitFor(), output);
    }

    static List<Path> filesOf(Path directory) throws IOException {
        try (Stream<Path> files = Files.list(directory)) {
            return files.filter(Files::isRegularFile).sorted().collect(Collectors.toList());
        }
    }

    /** Copies a file of the project, and its right to be run, into the same place below another directory. */
    static void copy(Path file, Path project) throws IOException {
        Path to = project.resolve(file);
        Files.createDirectories(to.getParent());
        Files.copy(file, to, StandardCopyOption.COPY_ATTRIBUTES);
    }

    static void write(Path file, String text) throws IOException {
        Files.createDirectories(file.getParent());
        Files.writeString(file, text);
    }

    static void delete(Path directory) throws IOException {
        List<Path> all;
        try (Stream<Path> files = Files.walk(directory)) {
            all = files.sorted(Comparator.reverseOrder()).collect(Collectors.toList());
        }
        for (Path each : all) Files.delete(each);
    }
}
