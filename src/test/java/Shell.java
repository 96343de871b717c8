import java.io.File;
import java.io.IOException;
import java.nio.file.Files;
import java.nio.file.Path;
import java.util.ArrayList;
import java.util.Collections;
import java.util.List;
import java.util.stream.Stream;

/** A place of its own for a copy of the project, where commands are given as a user gives them. */
final class Shell {
    /** Is set for every command, so that tests that give commands don't start themselves again. */
    private static final String WITHIN = "DUNE_BENCH_WITHIN_A_TEST";
    private final Path place;
    /** The project's own directory; ../shared lies beside it, as it does for a user. */
    final Path project;
    final Path shared;

    Shell() throws IOException {
        place = Files.createTempDirectory("dune-bench");
        project = Files.createDirectory(place.resolve("project"));
        shared = place.resolve("shared");
    }

    static boolean isWithin() {
        return System.getenv(WITHIN) != null;
    }

    record Answer(int code, String text) { }

    Answer give(String command) throws IOException, InterruptedException {
        File told = place.resolve("told").toFile();
        ProcessBuilder builder = new ProcessBuilder("sh", "-c", command);
        builder.directory(project.toFile()).redirectErrorStream(true).redirectOutput(told);
        builder.environment().put(WITHIN, "1");
        int code = builder.start().waitFor();
        return new Answer(code, Files.readString(told.toPath()));
    }

    /** A file or a whole directory of the project, to the same place in the copy. */
    void bring(String name) throws IOException {
        for (Path from : under(Path.of(name))) {
            Path to = project.resolve(from);
            Files.createDirectories(to.getParent());
            if (Files.isDirectory(from)) {
                Files.createDirectories(to);
            } else {
                Files.copy(from, to);
                to.toFile().setExecutable(Files.isExecutable(from));
            }
        }
    }

    void write(Path file, String text) throws IOException {
        Files.createDirectories(file.getParent());
        Files.writeString(file, text);
    }

    void remove() throws IOException {
        List<Path> all = under(place);
        Collections.reverse(all);
        for (Path p : all) {
            Files.delete(p);
        }
    }

    /** Directories come ahead of what is in them; links are not followed. */
    private static List<Path> under(Path top) throws IOException {
        try (Stream<Path> walk = Files.walk(top)) {
            return new ArrayList<>(walk.toList());
        }
    }
}
