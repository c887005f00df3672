import java.io.IOException;
import java.nio.file.Files;
import java.nio.file.Path;
import java.util.ArrayList;
import java.util.List;
import java.util.Set;
import java.util.TreeSet;
import java.util.stream.Stream;

/** What stands in README.md, read from the project's folder, in which tests are run. */
final class Readme {
    private final List<String> lines;

    Readme() throws IOException {
        lines = Files.readAllLines(Path.of("README.md"));
    }

    /** The lines of each block of a kind, those without text left out. */
    List<List<String>> blocks(String kind) {
        List<List<String>> found = new ArrayList<>();
        boolean inside = false;
        boolean wanted = false;
        for (String line : lines) {
            if (line.startsWith("```")) {
                inside = !inside;
                wanted = inside && line.equals("```" + kind);
                if (wanted) found.add(new ArrayList<>());
            } else if (wanted && !line.isBlank()) {
                found.get(found.size() - 1).add(line);
            }
        }
        return found;
    }

    /** What stands in the first column of tables, but for the line below their heads. */
    List<String> tableFirsts() {
        List<String> found = new ArrayList<>();
        for (String line : lines) {
            if (line.startsWith("| ") && !line.startsWith("| ---")) found.add(line.split("\\|")[1].trim());
        }
        return found;
    }

    static Set<String> testsOfTheProject() throws IOException {
        Set<String> found = new TreeSet<>();
        try (Stream<Path> files = Files.list(Path.of("src/test/java"))) {
            for (Path file : files.toList()) {
                String name = file.getFileName().toString();
                if (name.endsWith("Test.java")) found.add(name.substring(0, name.length() - ".java".length()));
            }
        }
        return found;
    }
}
