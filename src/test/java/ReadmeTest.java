import java.io.IOException;
import java.nio.file.Files;
import java.nio.file.Path;
import java.util.ArrayList;
import java.util.Comparator;
import java.util.List;
import java.util.TreeSet;
import java.util.regex.Matcher;
import java.util.regex.Pattern;
import java.util.stream.Stream;

/** README.md tells the truth: its program, compiled and run by its own commands, prints the answers that stand in it. */
public final class ReadmeTest {
    private static final Checks checks = new Checks();

    public static void main(String[] args) throws IOException, InterruptedException {
        Path root = Path.of(args.length > 1 ? args[1] : ".");
        String readme = Files.readString(root.resolve("README.md"));
        Path place = Files.createTempDirectory("readme");
        try {
            program(root, readme, place);
        } finally {
            remove(place);
        }
        table(root, readme);
        checks.end();
    }

    private static String block(String readme, String language, int number) {
        int start = 0;
        for (int i = 0; i <= number; i++) {
            start = readme.indexOf("\n```" + language + "\n", start) + language.length() + 5;
        }
        return readme.substring(start, readme.indexOf("```", start));
    }

    private static void program(Path root, String readme, Path place) throws IOException, InterruptedException {
        String program = block(readme, "java", 0);
        Path sources = place.resolve("src/main/java");
        Files.createDirectories(sources);
        Files.copy(root.resolve("src/main/java/CuratorAquarum.java"), sources.resolve("CuratorAquarum.java"));
        Files.writeString(place.resolve("Waters.java"), program);
        List<String> printed = new ArrayList<>();
        for (String command : block(readme, "sh", 0).trim().split("\n")) {
            printed.addAll(printedBy(command, place));
        }
        List<String> due = answers(program);
        checks.due(0, "answers told in README.md", true, due.size() > 20);
        checks.due(0, "what its program prints", due, printed);
        checks.due(0, "the command of its tests", true,
                Files.isExecutable(root.resolve(block(readme, "sh", 1).trim())));
    }

    /** What stands between the sign of a comment and its first colon is the answer of that line. */
    private static List<String> answers(String program) {
        List<String> all = new ArrayList<>();
        Matcher found = Pattern.compile("// ([^:\n]*):").matcher(program);
        while (found.find()) {
            all.add(found.group(1));
        }
        return all;
    }

    private static List<String> printedBy(String command, Path place) throws IOException, InterruptedException {
        Path out = place.resolve("printed");
        Process process = new ProcessBuilder(command.split(" ")).directory(place.toFile())
                .redirectErrorStream(true).redirectOutput(out.toFile()).start();
        checks.due(0, "exit code of " + command, 0, process.waitFor());
        return Files.readAllLines(out);
    }

    private static void remove(Path place) throws IOException {
        try (Stream<Path> all = Files.walk(place)) {
            for (Path path : all.sorted(Comparator.reverseOrder()).toList()) {
                Files.delete(path);
            }
        }
    }

    /** .ci/run runs each file whose name ends so: the table names them all, and no other one. */
    private static void table(Path root, String readme) throws IOException {
        TreeSet<String> there = new TreeSet<>();
        try (Stream<Path> files = Files.list(root.resolve("src/test/java"))) {
            for (Path file : files.toList()) {
                String name = file.getFileName().toString();
                if (name.endsWith("Test.java")) {
                    there.add(name.substring(0, name.length() - ".java".length()));
                }
            }
        }
        TreeSet<String> told = new TreeSet<>();
        Matcher found = Pattern.compile("(?m)^\\| `(\\w+)` \\|").matcher(readme);
        while (found.find()) {
            told.add(found.group(1));
        }
        checks.due(0, "tests in the table of README.md", there, told);
    }
}
