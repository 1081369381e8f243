import java.io.IOException;
import java.lang.reflect.Method;
import java.lang.reflect.Modifier;
import java.nio.file.Files;
import java.nio.file.Path;
import java.util.ArrayList;
import java.util.Collections;
import java.util.List;
import java.util.Set;
import java.util.TreeSet;
import java.util.concurrent.TimeUnit;
import java.util.regex.Matcher;
import java.util.regex.Pattern;
import java.util.stream.Collectors;
import java.util.stream.Stream;

/** What README.md says of using the class and of running its tests is so. */
public final class ReadmeTests {
    private static final Path README = Path.of("README.md");
    private static final Path TESTS = Path.of("src/test/java");
    private static final Path SHARED = Path.of("../shared");
    // the script that runs this test: it is not run once more from here
    private static final String ALL_TESTS = ".ci/run";
    private static final Pattern BLOCK = Pattern.compile("(?ms)^```(\\w+)\n(.*?)^```$");
    private static final Pattern CALL = Pattern.compile("`(\\w+)\\(([^`)]*)\\)`");
    private static final Pattern COMMAND = Pattern.compile("`([a-z]+)((?: [0-9]{1,3})+)`");
    private static final Pattern TEST_NAME = Pattern.compile("`(\\w+Tests)`");

    public static void main(String[] args) throws Exception {
        String text = Files.readString(README);
        namesEachMethod(text);
        namesEachTest(text);
        commandsAreRead(text);
        Path directory = Files.createTempDirectory("readme");
        try {
            commandsRun(blocksOf(text), copyOfProject(directory));
        } finally {
            deleteTree(directory);
        }
        Checks.finish("ReadmeTests");
    }

    /** A block of README.md, and in which language it is. */
    private record Block(String language, String text) {
    }

    private static List<Block> blocksOf(String text) {
        List<Block> blocks = new ArrayList<>();
        Matcher matcher = BLOCK.matcher(text);
        while (matcher.find()) {
            blocks.add(new Block(matcher.group(1), matcher.group(2)));
        }
        return blocks;
    }

    // ---- names

    /** Each method of the face with the number of its parameters, and nothing that looks like one but is none. */
    private static void namesEachMethod(String text) {
        Set<String> named = new TreeSet<>();
        Matcher matcher = CALL.matcher(text);
        while (matcher.find()) {
            String parameters = matcher.group(2);
            named.add(matcher.group(1) + " " + (parameters.isBlank() ? 0 : parameters.split(",").length));
        }
        Set<String> face = new TreeSet<>();
        face.add("LineBalancer 0");
        for (Method method : LineBalancer.class.getDeclaredMethods()) {
            if (Modifier.isPublic(method.getModifiers())) {
                face.add(method.getName() + " " + method.getParameterCount());
            }
        }
        Checks.about("README.md, the methods that it names");
        Checks.due(face, named);
    }

    private static void namesEachTest(String text) throws IOException {
        Set<String> named = new TreeSet<>();
        Matcher matcher = TEST_NAME.matcher(text);
        while (matcher.find()) {
            named.add(matcher.group(1));
        }
        Set<String> tests = new TreeSet<>();
        try (Stream<Path> files = Files.list(TESTS)) {
            files.forEach(file -> tests.add(file.getFileName().toString().replace(".java", "")));
        }
        Checks.about("README.md, the tests that it names");
        Checks.due(tests, named);
    }

    private static void commandsAreRead(String text) {
        Set<String> words = new TreeSet<>();
        Matcher matcher = COMMAND.matcher(text);
        while (matcher.find()) {
            String command = matcher.group(1) + matcher.group(2);
            words.add(matcher.group(1));
            Checks.about("README.md, \"" + command + "\"");
            Checks.due(1, Checks.read(Checks.withTasks(3, 10), command));
        }
        Checks.about("README.md, the words of the commands");
        Checks.due("[apart, before, cycle, put, task, together]", words);
    }

    // ---- the example and the commands of a shell

    private static void commandsRun(List<Block> blocks, Path project) throws Exception {
        Set<String> ran = new TreeSet<>();
        String printed = "";
        for (Block block : blocks) {
            if (block.language().equals("java")) {
                writeExample(block.text(), project);
            } else if (block.language().equals("sh")) {
                printed = runAll(block.text(), project, ran);
            } else if (block.language().equals("text")) {
                Checks.about("README.md, what the example prints");
                Checks.due(block.text(), printed);
            }
        }
        Checks.about("README.md, the commands");
        Checks.due(true, ran.contains(ALL_TESTS));
        Checks.due(true, ran.contains("java -cp build Example"));
        Checks.due(true, ran.contains("java -cp build LineBalancerRuns"));
        Checks.due(true, ran.stream().anyMatch(line -> line.matches("java -cp build \\w+Tests")));
    }

    private static void writeExample(String text, Path project) throws IOException {
        Checks.about("README.md, the example");
        Matcher matcher = Pattern.compile("public final class (\\w+)").matcher(text);
        boolean isClass = matcher.find();
        Checks.due(true, isClass);
        if (isClass) {
            Files.writeString(project.resolve(matcher.group(1) + ".java"), text);
        }
    }

    /** What the last of the commands printed. */
    private static String runAll(String commands, Path project, Set<String> ran) throws Exception {
        String printed = "";
        for (String line : commands.lines().collect(Collectors.toList())) {
            Checks.about("README.md, \"" + line + "\"");
            ran.add(line);
            if (line.equals(ALL_TESTS)) {
                Checks.due(true, Files.isExecutable(Path.of(ALL_TESTS)));
            } else {
                printed = run(line, project);
            }
        }
        return printed;
    }

    private static String run(String line, Path project) throws Exception {
        Path output = Files.createTempFile(project.getParent(), "printed", ".txt");
        Process process = new ProcessBuilder(line.split(" ")).directory(project.toFile())
                .redirectErrorStream(true).redirectOutput(output.toFile()).start();
        boolean isEnded = process.waitFor(5, TimeUnit.MINUTES);
        if (!isEnded) {
            process.destroyForcibly();
        }
        String printed = Files.readString(output);
        Checks.due("exit code 0", isEnded ? "exit code " + process.exitValue() : "no end");
        if (isEnded && process.exitValue() != 0) {
            System.out.println(printed);
        }
        return printed;
    }

    // ---- a copy, so that the commands leave nothing in the project

    private static Path copyOfProject(Path directory) throws IOException {
        Path project = Files.createDirectory(directory.resolve("project"));
        Files.createSymbolicLink(directory.resolve("shared"), SHARED.toRealPath());
        for (Path file : treeOf(Path.of("src"))) {
            Path copy = project.resolve(file);
            if (Files.isDirectory(file)) {
                Files.createDirectories(copy);
            } else {
                Files.copy(file, copy);
            }
        }
        return project;
    }

    private static void deleteTree(Path directory) throws IOException {
        List<Path> files = treeOf(directory);
        Collections.reverse(files);
        for (Path file : files) {
            Files.delete(file);
        }
    }

    private static List<Path> treeOf(Path directory) throws IOException {
        try (Stream<Path> files = Files.walk(directory)) {
            return files.collect(Collectors.toCollection(ArrayList::new));
        }
    }
}
