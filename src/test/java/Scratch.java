import java.io.IOException;
import java.nio.charset.StandardCharsets;
import java.nio.file.FileVisitOption;
import java.nio.file.Files;
import java.nio.file.Path;
import java.util.Comparator;
import java.util.List;
import java.util.stream.Collectors;
import java.util.stream.Stream;

/** A folder with a project, and with what it finds under ../shared; commands are run in the project. */
final class Scratch {
    final Path project;
    final Path shared;
    private final Path all;

    Scratch() throws IOException {
        all = Files.createTempDirectory("hut");
        project = Files.createDirectories(all.resolve("main"));
        shared = Files.createDirectories(all.resolve("shared"));
    }

    /** What a command answered: its exit code, and the lines that it printed. */
    static final class Answer {
        final int exit;
        final List<String> lines;

        Answer(int exit, List<String> lines) {
            this.exit = exit;
            this.lines = lines;
        }

        boolean tells(String pattern) {
            return lines.stream().anyMatch(line -> line.matches(pattern));
        }

        String lastLine() {
            return lines.isEmpty() ? "" : lines.get(lines.size() - 1);
        }
    }

    /** The project's own folder, by the path of its class. */
    static Path rootOf(String pathOfTheClass) {
        return Path.of(pathOfTheClass).toAbsolutePath().normalize().getParent().resolve("../../..").normalize();
    }

    void write(Path file, String text) throws IOException {
        Files.createDirectories(file.getParent());
        Files.writeString(file, text);
    }

    /** Copies files with all that is in them; rights are not copied, as ../shared may be read only. */
    void copy(Path from, Path to) throws IOException {
        for (Path file : filesUnder(from)) {
            Path target = to.resolve(from.relativize(file).toString());
            Files.createDirectories(target.getParent());
            Files.write(target, Files.readAllBytes(file));
        }
    }

    /** The folder, or one in it, may be a link: ../shared may stand elsewhere. */
    static List<Path> filesUnder(Path folder) throws IOException {
        try (Stream<Path> paths = Files.walk(folder, FileVisitOption.FOLLOW_LINKS)) {
            return paths.filter(Files::isRegularFile).sorted().collect(Collectors.toList());
        }
    }

    Process start(String command) throws IOException {
        return new ProcessBuilder("bash", "-e", "-c", command).directory(project.toFile())
            .redirectErrorStream(true).start();
    }

    static Answer answerOf(Process process) throws IOException, InterruptedException {
        process.getOutputStream().close();
        String printed = new String(process.getInputStream().readAllBytes(), StandardCharsets.UTF_8);
        // what the machine says of its own options is no answer
        List<String> lines = printed.lines().filter(line -> !line.startsWith("Picked up "))
            .collect(Collectors.toList());
        return new Answer(process.waitFor(), lines);
    }

    Answer run(String command) throws IOException, InterruptedException {
        return answerOf(start(command));
    }

    void delete() throws IOException {
        try (Stream<Path> paths = Files.walk(all)) {
            for (Path path : paths.sorted(Comparator.reverseOrder()).collect(Collectors.toList())) {
                Files.delete(path);
            }
        }
    }
}
