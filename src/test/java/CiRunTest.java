import java.io.IOException;
import java.nio.charset.StandardCharsets;
import java.nio.file.Files;
import java.nio.file.Path;
import java.util.Comparator;
import java.util.List;
import java.util.stream.Stream;

/** .ci/run and the commands of README.md do what README.md says, tried on small projects of their own. */
public final class CiRunTest {
    private static final String GOOD = "if (new PageLines().many(3) != 36) System.exit(1);";
    private static final String BAD = "if (new PageLines().many(3) == 36) System.exit(1);";
    private static final String THROWS = "throw new IllegalStateException();";
    private static final String NO_JAVA = "this is no Java";

    private static final Due DUE = new Due("CiRunTest");

    public static void main(String[] args) throws IOException, InterruptedException {
        Path room = Files.createTempDirectory("pagelines");
        try {
            allPass(room.resolve("all"));
            someFail(room.resolve("some"));
            oneOfTheSharedFails(room.resolve("one"));
            oneOfTheProjectFails(room.resolve("own"));
            noSharedTests(room.resolve("none"));
            commandsOfTheReadme(room.resolve("commands"));
        } finally {
            delete(room);
        }
        DUE.end();
    }

    private static void allPass(Path room) throws IOException, InterruptedException {
        test(room, "project/src/test/java/OwnTest", "Helper.look();");
        write(room.resolve("project/src/test/java/Helper.java"), "class Helper { static void look() { " + GOOD + " } }");
        test(room, "shared/tests/Runs", GOOD);
        Ended run = ciRun(room);
        DUE.is("all pass: exit code", run.code, 0);
        DUE.holds("all pass: " + run.text, run.tells("ok   OwnTest", "ok   Runs", "2 passed, 0 failed"));
    }

    private static void someFail(Path room) throws IOException, InterruptedException {
        test(room, "project/src/test/java/AnswerTest", BAD);
        test(room, "project/src/test/java/NoJavaTest", NO_JAVA);
        test(room, "project/src/test/java/OwnTest", GOOD);
        test(room, "project/src/test/java/ThrowsTest", THROWS);
        test(room, "shared/tests/Answer", BAD);
        test(room, "shared/tests/Runs", GOOD);
        test(room, "shared/tests/below/Answer", BAD);
        test(room, "shared/tests/below/Below", GOOD);
        Ended run = ciRun(room);
        DUE.is("some fail: exit code", run.code, 1);
        DUE.holds("some fail: " + run.text, run.tells("FAIL AnswerTest", "FAIL NoJavaTest", "ok   OwnTest", "FAIL ThrowsTest",
            "FAIL Answer", "ok   Runs", "FAIL Answer", "ok   Below", "3 passed, 5 failed"));
    }

    private static void oneOfTheSharedFails(Path room) throws IOException, InterruptedException {
        test(room, "project/src/test/java/OwnTest", GOOD);
        test(room, "shared/tests/Runs", BAD);
        Ended run = ciRun(room);
        DUE.is("one of the shared fails: exit code", run.code, 1);
        DUE.holds("one of the shared fails: " + run.text, run.tells("ok   OwnTest", "FAIL Runs", "1 passed, 1 failed"));
    }

    private static void oneOfTheProjectFails(Path room) throws IOException, InterruptedException {
        test(room, "project/src/test/java/OwnTest", BAD);
        test(room, "shared/tests/Runs", GOOD);
        Ended run = ciRun(room);
        DUE.is("one of the project fails: exit code", run.code, 1);
        DUE.holds("one of the project fails: " + run.text, run.tells("FAIL OwnTest", "ok   Runs", "1 passed, 1 failed"));
    }

    private static void noSharedTests(Path room) throws IOException, InterruptedException {
        test(room, "project/src/test/java/OwnTest", GOOD);
        DUE.is("no ../shared/tests: exit code", ciRun(room).code, 1);
    }

    /** The first block is .ci/run itself, whose ways are looked at above; the second one is tried. */
    private static void commandsOfTheReadme(Path room) throws IOException, InterruptedException {
        List<List<String>> blocks = new Readme().blocks("sh");
        DUE.is("blocks of commands", blocks.size(), 2);
        DUE.same("how all tests are run", blocks.get(0).toString(), "[.ci/run]");
        DUE.holds(".ci/run can be run", Files.isExecutable(Path.of(".ci/run")));
        try (Stream<Path> files = Files.walk(Path.of("src"))) {
            for (Path file : files.filter(Files::isRegularFile).toList()) copy(file, room.resolve(file));
        }
        String said = "";
        for (String command : blocks.get(1)) {
            Ended run = run(room, "bash", "-c", command);
            DUE.is(command, run.code, 0);
            said = run.text;
        }
        DUE.holds("the last command runs a test: " + said, said.matches("(?s)\\w+Test: [1-9]\\d* answers, 0 not as due\\s*"));
    }

    private static void test(Path room, String path, String does) throws IOException {
        String name = path.substring(path.lastIndexOf('/') + 1);
        write(room.resolve(path + ".java"),
            "public final class " + name + " { public static void main(String[] args) { " + does + " } }");
    }

    private static void write(Path file, String text) throws IOException {
        Files.createDirectories(file.getParent());
        Files.writeString(file, text);
    }

    private static void copy(Path from, Path to) throws IOException {
        Files.createDirectories(to.getParent());
        Files.copy(from, to);
    }

    /** Runs .ci/run of the project in a room, from a folder that is not the project's. */
    private static Ended ciRun(Path room) throws IOException, InterruptedException {
        copy(Path.of(".ci/run"), room.resolve("project/.ci/run"));
        copy(Path.of("src/main/java/PageLines.java"), room.resolve("project/src/main/java/PageLines.java"));
        return run(room, "bash", "project/.ci/run");
    }

    private static Ended run(Path folder, String... command) throws IOException, InterruptedException {
        Process process = new ProcessBuilder(command).directory(folder.toFile()).redirectErrorStream(true).start();
        String text = new String(process.getInputStream().readAllBytes(), StandardCharsets.UTF_8);
        return new Ended(process.waitFor(), text);
    }

    private static void delete(Path room) throws IOException {
        try (Stream<Path> files = Files.walk(room)) {
            for (Path file : files.sorted(Comparator.reverseOrder()).toList()) Files.delete(file);
        }
    }

    private static final class Ended {
        final int code;
        final String text;

        Ended(int code, String text) {
            this.code = code;
            this.text = text;
        }

        /** Whether these are, in this order, all its lines that tell of a test, and the last one. */
        boolean tells(String... lines) {
            List<String> told = text.lines().filter(line -> line.matches("(ok  |FAIL) .*|.* passed, .* failed")).toList();
            return told.equals(List.of(lines));
        }
    }
}
