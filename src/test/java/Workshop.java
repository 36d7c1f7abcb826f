import java.io.IOException;
import java.nio.file.Files;
import java.nio.file.Path;
import java.util.Comparator;
import java.util.List;
import java.util.stream.Stream;

/** A directory that stands to the project's files as the project's own does; commands leave their traces just there. */
final class Workshop {
    private final Path root;
    private final Path project;

    Workshop() throws IOException {
        root = Files.createTempDirectory("readme");
        project = Files.createDirectory(root.resolve("project"));
        Files.createSymbolicLink(project.resolve("src"), Path.of("src").toAbsolutePath());
        Files.createSymbolicLink(root.resolve("shared"), Path.of("../shared").toRealPath());
    }

    void write(String name, String content) throws IOException {
        Files.writeString(project.resolve(name), content);
    }

    /** Runs a command and returns its exit code; what it prints is shown if that is not 0. */
    int run(String... command) throws IOException, InterruptedException {
        Path prints = root.resolve("prints");
        ProcessBuilder builder = new ProcessBuilder(List.of(command)).directory(project.toFile());
        int code = builder.redirectErrorStream(true).redirectOutput(prints.toFile()).start().waitFor();
        if (code != 0) {
            System.out.print(Files.readString(prints));
        }
        return code;
    }

    void remove() throws IOException {
        try (Stream<Path> inside = Files.walk(root)) {
            for (Path path : inside.sorted(Comparator.reverseOrder()).toList()) {
                Files.delete(path);
            }
        }
    }
}
