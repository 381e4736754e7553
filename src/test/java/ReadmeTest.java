import java.io.IOException;
import java.lang.reflect.Method;
import java.lang.reflect.Modifier;
import java.nio.file.Files;
import java.nio.file.Path;
import java.util.ArrayList;
import java.util.List;
import java.util.stream.Stream;

/**
 * README.md: it is there, it names all calls and all tests, and its commands, given one behind the other in a
 * fresh copy of the project, build the class, run its example and run its tests.
 */
public final class ReadmeTest extends Checks {
    private static final Path README = Path.of("README.md");
    /** Set for README.md's own commands: one of them is .ci/run, which comes here again. */
    private static final String WITHIN = "SCISSORS_WITHIN_README";
    private static final String BUILDS = "javac --release 17 -d build src/main/java/ScissorsTable.java";
    private static final String TESTS = "bash .ci/run";
    private static final String EXAMPLE = "java -cp build Example";

    public static void main(String[] args) throws IOException, InterruptedException {
        if (System.getenv(WITHIN) != null) {
            System.out.println("ReadmeTest: README.md's commands are being run");
            return;
        }
        about("README.md");
        due("README.md is there", Files.isRegularFile(README), true);
        if (Files.isRegularFile(README)) {
            String page = Files.readString(README);
            namesCalls(page);
            namesTests(page);
            Path room = Files.createTempDirectory("readme");
            try {
                commandsWork(page, copyOfProject(room));
            } finally {
                Rooms.removeAll(room);
            }
        }
        close("ReadmeTest");
    }

    private static void namesCalls(String page) {
        for (Method method : ScissorsTable.class.getDeclaredMethods()) {
            if (Modifier.isPublic(method.getModifiers())) {
                due("it names the call " + method.getName(), page.contains("`" + method.getName() + "`"), true);
            }
        }
    }

    private static void namesTests(String page) throws IOException {
        for (String name : testNames(Path.of("src/test/java"))) {
            due("it names the test " + name, page.contains("`" + name + "`") || page.contains("`" + name + " ["), true);
        }
    }

    private static List<String> testNames(Path directory) throws IOException {
        try (Stream<Path> files = Files.list(directory)) {
            return files.map(file -> file.getFileName().toString()).filter(name -> name.endsWith(".java"))
                .map(name -> name.substring(0, name.length() - 5)).sorted().toList();
        }
    }

    private static Path copyOfProject(Path room) throws IOException {
        Path project = Files.createDirectory(room.resolve("main"));
        for (String part : new String[] {".ci", "src", "README.md"}) {
            Rooms.copyAll(Path.of(part), project.resolve(part));
        }
        Files.createSymbolicLink(room.resolve("shared"), Path.of("../shared").toRealPath());
        return project;
    }

    private static void commandsWork(String page, Path project) throws IOException, InterruptedException {
        List<String> commands = linesOf(page, "sh");
        due("it names the command " + BUILDS, commands.contains(BUILDS), true);
        due("it names the command " + TESTS, commands.contains(TESTS), true);
        due("it names the command " + EXAMPLE, commands.contains(EXAMPLE), true);
        for (String command : commands) {
            List<String> told = new ArrayList<>();
            int code = Rooms.run(command, project, WITHIN, told);
            due("exit code of " + command, code, 0);
            if (code != 0) {
                told.forEach(System.out::println);
            }
            if (command.equals(BUILDS)) {
                due("the class is built", Files.isRegularFile(project.resolve("build/ScissorsTable.class")), true);
                Files.write(project.resolve("build/Example.java"), linesOf(page, "java"));
            } else if (command.equals(EXAMPLE)) {
                due("the example", String.join("\n", told), String.join("\n", linesOf(page, "text")));
            } else if (command.equals(TESTS)) {
                ranAllTests(told);
            }
        }
    }

    private static void ranAllTests(List<String> told) throws IOException {
        List<String> own = testNames(Path.of("src/test/java"));
        List<String> shared = testNames(Path.of("../shared/tests"));
        for (String name : own) {
            due(name + " passed", told.contains("passed: src/test/java/" + name + ".java"), true);
        }
        for (String name : shared) {
            due(name + " passed", told.contains("passed: ../shared/tests/" + name + ".java"), true);
        }
        String last = told.isEmpty() ? "" : told.get(told.size() - 1);
        due("the last line of " + TESTS, last, own.size() + shared.size() + " passed, 0 failed");
    }

    /** All lines of the page's blocks of this kind. */
    private static List<String> linesOf(String page, String kind) {
        List<String> lines = new ArrayList<>();
        boolean within = false;
        for (String line : page.lines().toList()) {
            if (line.startsWith("```")) {
                within = line.equals("```" + kind);
            } else if (within) {
                lines.add(line);
            }
        }
        return lines;
    }
}
