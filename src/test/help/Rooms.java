import java.io.IOException;
import java.nio.file.Files;
import java.nio.file.Path;
import java.util.Comparator;
import java.util.List;
import java.util.stream.Stream;

/** Directories for a while, and commands that are run in them. */
public final class Rooms {
    private Rooms() {
    }

    public static void copyAll(Path from, Path to) throws IOException {
        for (Path path : pathsOf(from)) {
            Files.copy(path, to.resolve(from.relativize(path).toString()));
        }
    }

    public static void removeAll(Path room) throws IOException {
        for (Path path : pathsOf(room).stream().sorted(Comparator.reverseOrder()).toList()) {
            Files.delete(path);
        }
    }

    /** A directory comes ahead of what is in it; links are not followed. */
    private static List<Path> pathsOf(Path top) throws IOException {
        try (Stream<Path> paths = Files.walk(top)) {
            return paths.toList();
        }
    }

    /** Runs a command with a variable of the environment set; its lines come to told, the answer is its exit code. */
    public static int run(String command, Path directory, String variable, List<String> told) throws IOException, InterruptedException {
        ProcessBuilder builder = new ProcessBuilder("bash", "-c", command).directory(directory.toFile()).redirectErrorStream(true);
        builder.environment().put(variable, "1");
        Process process = builder.start();
        process.getOutputStream().close();
        told.addAll(process.inputReader().lines().toList());
        return process.waitFor();
    }
}
