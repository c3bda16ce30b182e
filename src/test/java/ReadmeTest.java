import java.io.File;
import java.io.IOException;
import java.nio.charset.StandardCharsets;
import java.nio.file.Files;
import java.nio.file.Path;
import java.util.Comparator;
import java.util.List;
import java.util.regex.Matcher;
import java.util.regex.Pattern;
import java.util.stream.Stream;

/** What README.md prints: its example is compiled and run as it stands there, and it names each test. */
public final class ReadmeTest {
    private static final Path CLASS = Path.of("src/main/java/WetSuitPedalsShoes.java");
    private static final Path TESTS = Path.of("src/test/java");

    private static int wrong = 0;

    private static void fault(String text) {
        wrong++;
        System.out.println(text);
    }

    private static String first(String readme, String language) {
        Matcher block = Pattern.compile("(?ms)^```" + language + "\n(.*?)^```$").matcher(readme);
        if (!block.find()) {
            fault("README.md has no block of " + language);
            return "";
        }
        return block.group(1);
    }

    private static String nameOf(String program) {
        Matcher name = Pattern.compile("public final class (\\w+)").matcher(program);
        return name.find() ? name.group(1) : "None";
    }

    /** All that the commands print, complaints too. */
    private static String run(Path where, String commands) throws IOException, InterruptedException {
        File output = where.resolve("printed").toFile();
        Process process = new ProcessBuilder("bash", "-e", "-c", commands)
            .directory(where.toFile()).redirectErrorStream(true).redirectOutput(output).start();
        int code = process.waitFor();
        if (code != 0) {
            fault("the commands end with exit code " + code);
        }
        return Files.readString(output.toPath(), StandardCharsets.UTF_8);
    }

    private static void remove(Path where) throws IOException {
        try (Stream<Path> all = Files.walk(where)) {
            for (Path one : all.sorted(Comparator.reverseOrder()).toList()) {
                Files.delete(one);
            }
        }
    }

    private static void checkExample(String readme) throws IOException, InterruptedException {
        String program = first(readme, "java");
        Path where = Files.createTempDirectory("readme");
        try {
            Files.createDirectories(where.resolve(CLASS).getParent());
            Files.copy(CLASS, where.resolve(CLASS));
            Files.writeString(where.resolve(nameOf(program) + ".java"), program);
            String printed = run(where, first(readme, "sh"));
            if (!printed.equals(first(readme, "text"))) {
                fault("the example prints otherwise:\n" + printed);
            }
        } finally {
            remove(where);
        }
    }

    private static void checkNames(String readme) throws IOException {
        try (Stream<Path> tests = Files.list(TESTS)) {
            List<String> names = tests.map(test -> test.getFileName().toString().replace(".java", "")).sorted().toList();
            for (String name : names) {
                if (!readme.contains("- `" + name + "`: ")) {
                    fault("README.md does not name " + name);
                }
            }
            Matcher named = Pattern.compile("(?m)^- `(\\w+)`: ").matcher(readme);
            while (named.find()) {
                if (!names.contains(named.group(1))) {
                    fault("README.md names " + named.group(1) + ", which is not there");
                }
            }
        }
        if (!readme.contains("bash .ci/run") || !Files.isExecutable(Path.of(".ci/run"))) {
            fault("how the tests are run is not told");
        }
    }

    public static void main(String[] args) throws IOException, InterruptedException {
        String readme = Files.readString(Path.of("README.md"), StandardCharsets.UTF_8);
        checkExample(readme);
        checkNames(readme);
        System.out.println(wrong == 0 ? "all is as README.md says" : wrong + " things are not as README.md says");
        if (wrong != 0) {
            System.exit(1);
        }
    }
}
