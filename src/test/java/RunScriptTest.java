import java.io.IOException;
import java.nio.file.Files;
import java.nio.file.Path;
import java.util.ArrayList;
import java.util.List;

/** .ci/run, on small projects of its own: it passes if all tests pass, and fails whenever one does not. */
public final class RunScriptTest extends Checks {
    private static final String MAIN = "public final class ScissorsTable { }";
    private static final String PASSES = "new ScissorsTable();";
    private static int projects;

    public static void main(String[] args) throws IOException, InterruptedException {
        about(".ci/run");
        due("it can be executed", Files.isExecutable(Path.of(".ci/run")), true);
        Path room = Files.createTempDirectory("runs");
        try {
            ends(room, PASSES, PASSES, 0, "2 passed, 0 failed");
            ends(room, "System.exit(1);", PASSES, 1, "1 passed, 1 failed");
            ends(room, PASSES, "System.exit(1);", 1, "1 passed, 1 failed");
            ends(room, PASSES, "System.exit(7);", 1, "1 passed, 1 failed");
            ends(room, PASSES, "throw new IllegalStateException();", 1, "1 passed, 1 failed");
            ends(room, PASSES, "new ScissorsTable().noSuchCall();", 1, "1 passed, 1 failed");
            ends(room, PASSES, null, 1, "1 passed, 1 failed");
        } finally {
            Rooms.removeAll(room);
        }
        close("RunScriptTest");
    }

    /** A project with one test of its own and one shared test, or without any shared ones. */
    private static void ends(Path room, String own, String shared, int code, String lastLine) throws IOException, InterruptedException {
        projects++;
        Path project = room.resolve("r" + projects + "/main");
        write(project.resolve("src/main/java/ScissorsTable.java"), MAIN);
        write(project.resolve("src/test/java/Own.java"), testOf("Own", own));
        Files.createDirectories(project.resolve("src/test/help"));
        if (shared != null) {
            write(project.resolve("../shared/tests/Shared.java").normalize(), testOf("Shared", shared));
        }
        Rooms.copyAll(Path.of(".ci"), project.resolve(".ci"));
        List<String> told = new ArrayList<>();
        String name = ".ci/run with " + own + " and " + shared;
        due(name, Rooms.run("./.ci/run", project, "SCISSORS_SMALL_PROJECT", told), code);
        due("last line of " + name, told.isEmpty() ? "" : told.get(told.size() - 1), lastLine);
    }

    private static String testOf(String name, String body) {
        return "public class " + name + " { public static void main(String[] args) { " + body + " } }";
    }

    private static void write(Path file, String text) throws IOException {
        Files.createDirectories(file.getParent());
        Files.writeString(file, text);
    }
}
