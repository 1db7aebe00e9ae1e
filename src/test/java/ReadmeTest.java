import java.io.File;
import java.io.IOException;
import java.lang.reflect.Method;
import java.lang.reflect.Modifier;
import java.nio.file.Files;
import java.nio.file.Path;
import java.util.Comparator;
import java.util.List;
import java.util.Set;
import java.util.TreeSet;
import java.util.regex.Matcher;
import java.util.regex.Pattern;
import java.util.stream.Collectors;
import java.util.stream.Stream;

/** What README.md says holds as it stands there: its example, its commands, and the methods and tests that it names. */
public final class ReadmeTest {
    private static final Path README = Path.of("README.md");
    private static final Path PROGRAM = Path.of("src/main/java/TypeDesigner.java");
    private static final Path TESTS = Path.of("src/test/java");
    private static final Path RUN = Path.of(".ci/run");

    private static final Checks CHECKS = new Checks();

    private ReadmeTest() {
    }

    public static void main(String[] args) throws IOException, InterruptedException {
        String readme = Files.readString(README);
        List<String> commands = blocks(readme, "sh");
        CHECKS.begin("README.md has an example, what it prints, and two blocks of commands");
        CHECKS.isDue("the number of blocks", List.of(1, 1, 2),
                List.of(blocks(readme, "java").size(), blocks(readme, "text").size(), commands.size()));
        if (CHECKS.wrong() == 0) {
            exampleAnswersAsTold(blocks(readme, "java").get(0), commands.get(0), blocks(readme, "text").get(0));
            testsCanBeRun(commands.get(1));
        }
        everyMethodIsNamed(readme);
        testsAreThose(readme);
        CHECKS.end();
    }

    private static List<String> blocks(String readme, String kind) {
        Matcher matcher = Pattern.compile("(?ms)^```" + kind + "\n(.*?)^```$").matcher(readme);
        return matcher.results().map(found -> found.group(1)).collect(Collectors.toList());
    }

    /** The commands are tried beside a copy of the program, so that no file of the example stays here. */
    private static void exampleAnswersAsTold(String example, String commands, String due)
            throws IOException, InterruptedException {
        CHECKS.begin("the example of README.md compiles and prints what README.md tells");
        Path directory = Files.createTempDirectory("readme");
        try {
            Files.createDirectories(directory.resolve(PROGRAM).getParent());
            Files.copy(PROGRAM, directory.resolve(PROGRAM));
            Files.writeString(directory.resolve("Example.java"), example);
            StringBuilder printed = new StringBuilder();
            for (String command : commands.split("\n")) {
                printed.append(run(directory, command));
            }
            CHECKS.isDue("the example", due, printed.toString());
        } finally {
            remove(directory);
        }
    }

    private static String run(Path directory, String command) throws IOException, InterruptedException {
        Process process = new ProcessBuilder(command.split(" ")).directory(directory.toFile())
                .redirectError(ProcessBuilder.Redirect.INHERIT).start();
        String printed = new String(process.getInputStream().readAllBytes());
        CHECKS.isDue("the exit code of " + command, 0, process.waitFor());
        return printed;
    }

    private static void remove(Path directory) throws IOException {
        try (Stream<Path> all = Files.walk(directory)) {
            all.sorted(Comparator.reverseOrder()).map(Path::toFile).forEach(File::delete);
        }
    }

    /** To run the script here would run this test again. */
    private static void testsCanBeRun(String command) {
        CHECKS.begin("the command of README.md that runs the tests");
        CHECKS.isDue("it", "bash " + RUN + "\n", command);
        CHECKS.isDue("whether " + RUN + " is there and can be run", true, Files.isExecutable(RUN));
    }

    private static void everyMethodIsNamed(String readme) {
        CHECKS.begin("README.md names every public method");
        for (Method method : TypeDesigner.class.getDeclaredMethods()) {
            if (Modifier.isPublic(method.getModifiers())) {
                String name = "`" + method.getName() + "`";
                CHECKS.isDue("whether it names " + name, true, readme.contains(name));
            }
        }
    }

    private static void testsAreThose(String readme) throws IOException {
        CHECKS.begin("README.md names the tests that are there");
        Set<String> named = Pattern.compile("`(\\w+(?:Test|[a-z]Sentences))`").matcher(readme).results()
                .map(found -> found.group(1)).collect(Collectors.toCollection(TreeSet::new));
        try (Stream<Path> files = Files.list(TESTS)) {
            Set<String> there = files.map(file -> file.getFileName().toString().replace(".java", ""))
                    .filter(name -> name.matches("\\w+(Test|[a-z]Sentences)"))
                    .collect(Collectors.toCollection(TreeSet::new));
            CHECKS.isDue("the tests", there, named);
        }
    }
}
