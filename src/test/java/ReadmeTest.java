import java.io.File;
import java.io.IOException;
import java.lang.reflect.Field;
import java.lang.reflect.Method;
import java.lang.reflect.Modifier;
import java.nio.charset.StandardCharsets;
import java.nio.file.Files;
import java.nio.file.Path;
import java.util.ArrayList;
import java.util.Comparator;
import java.util.List;
import java.util.regex.Matcher;
import java.util.regex.Pattern;
import java.util.stream.Stream;

/** README.md is there, names all there is, its examples answer what it says, and its commands run the tests. */
public final class ReadmeTest {
    /** Set for the commands that this test runs: they run it, too, and it must not run them once more. */
    private static final String BY_README = "RUN_CUTS_BY_README";
    private static final Pattern BLOCK = Pattern.compile("(?ms)^```(\\w+)\\n(.*?)^```$");
    private static final Pattern ANSWERED = Pattern.compile("(x\\..*\\));\\s+// (-?\\d+|[A-Z]+)(:.*)?");

    private final Due due = new Due();
    private final Path root = Path.of(System.getProperty("run.cuts.root", ".")).toRealPath();
    private final Path shared = root.resolve("../shared").toRealPath();

    private ReadmeTest() throws IOException {
    }

    public static void main(String[] args) throws IOException, InterruptedException {
        ReadmeTest test = new ReadmeTest();
        Path readme = test.root.resolve("README.md");
        test.due.isTrue(readme + " is there", Files.isRegularFile(readme));
        if (Files.isRegularFile(readme)) {
            test.look(Files.readString(readme));
        }
        test.due.end();
    }

    private void look(String text) throws IOException, InterruptedException {
        int use = text.indexOf("\n## Use\n");
        int tests = text.indexOf("\n## Tests\n");
        due.isTrue("it says how to use the class, then how to run its tests", use >= 0 && tests > use);
        if (use < 0 || tests < use) {
            return;
        }
        namesAllOf(text.substring(use, tests));
        examples(blocks(text.substring(use, tests), "java"));
        commands(text.substring(tests));
    }

    private static List<String> blocks(String text, String kind) {
        List<String> blocks = new ArrayList<>();
        Matcher matcher = BLOCK.matcher(text);
        while (matcher.find()) {
            if (matcher.group(1).equals(kind)) {
                blocks.add(matcher.group(2));
            }
        }
        return blocks;
    }

    private void namesAllOf(String use) {
        due.under("what README.md names");
        for (Method method : RunCuts.class.getDeclaredMethods()) {
            if (Modifier.isPublic(method.getModifiers())) {
                String numbers = "\\w+(, \\w+){" + (method.getParameterCount() - 1) + "}";
                String call = "`" + method.getName() + "\\(" + (method.getParameterCount() == 0 ? "" : numbers) + "\\)`";
                due.isTrue("the call " + call, Pattern.compile(call).matcher(use).find());
            }
        }
        for (Field field : RunCuts.class.getDeclaredFields()) {
            if (Modifier.isPublic(field.getModifiers())) {
                due.isTrue("the constant " + field.getName(), use.contains("| `" + field.getName() + "` |"));
            }
        }
    }

    // ---- the examples: all of them one program, with the numbers behind // as what is due

    private void examples(List<String> blocks) throws IOException, InterruptedException {
        due.under("the examples of README.md");
        Path folder = Files.createTempDirectory("readme");
        try {
            Files.writeString(folder.resolve("Examples.java"), programOf(blocks));
            String classes = System.getProperty("java.class.path");
            Answer compiled = run(folder, "javac", "-cp", classes, "-d", ".", "Examples.java");
            due.isTrue("they compile: " + compiled.text, compiled.exit == 0);
            Answer answer = run(folder, "java", "-cp", classes + File.pathSeparator + ".", "Examples");
            due.isTrue("they answer as they say: " + answer.text, answer.exit == 0);
        } finally {
            delete(folder);
        }
    }

    private String programOf(List<String> blocks) {
        StringBuilder program = new StringBuilder("final class Examples {\n    public static void main(String[] args) {\n");
        program.append("Due due = new Due();\n");
        int answered = 0;
        for (String line : String.join("", blocks).split("\n")) {
            Matcher matcher = ANSWERED.matcher(line);
            if (matcher.matches()) {
                String want = matcher.group(2).matches("[A-Z]+") ? "RunCuts." + matcher.group(2) : matcher.group(2) + "L";
                program.append("due.is(\"").append(matcher.group(1).replace("\"", "\\\"")).append("\", ");
                program.append(matcher.group(1)).append(", ").append(want).append(");\n");
                answered++;
            } else {
                due.isTrue("an answer stands behind " + line, !line.startsWith("x."));
                program.append(line).append('\n');
            }
        }
        due.isTrue("there are examples: " + answered, answered >= 40);
        return program.append("due.end();\n    }\n}\n").toString();
    }

    // ---- the commands

    private void commands(String section) throws IOException, InterruptedException {
        due.under("the commands of README.md");
        List<String> all = testsIn(root.resolve("src/test/java"));
        for (String name : all) {
            due.isTrue("it tells of " + name, section.contains("`" + name + "`"));
        }
        all.addAll(testsIn(shared.resolve("tests")));
        List<String> commands = blocks(section, "sh");
        boolean runsAll = false;
        for (String command : commands) {
            List<String> named = new ArrayList<>(all);
            named.removeIf(name -> !command.matches("(?s).*\\b" + name + "\\b.*"));
            runsAll |= named.isEmpty();
            if (System.getenv(BY_README) == null) {
                runsTests(command, named.isEmpty() ? all : named);
            }
        }
        due.isTrue("a command runs all tests", runsAll);
        if (System.getenv(BY_README) == null && !commands.isEmpty()) {
            noticesFault(commands.get(commands.size() - 1));
        }
    }

    private void runsTests(String command, List<String> names) throws IOException, InterruptedException {
        Answer answer = run(root, "bash", "-c", command);
        due.is(command.strip() + " ends with", answer.exit, 0);
        for (String name : names) {
            due.isTrue(command.strip() + " runs " + name, answer.text.contains("== " + name + "\n"));
        }
        due.isTrue(command.strip() + " counts them", answer.text.endsWith("\n" + names.size() + " passed, 0 failed\n"));
    }

    /** A command that runs tests must fail where the class is wrong. */
    private void noticesFault(String command) throws IOException, InterruptedException {
        Path folder = Files.createTempDirectory("fault");
        try {
            copy(root, folder.resolve("main"));
            copy(shared, folder.resolve("shared"));
            Path source = folder.resolve("main/src/main/java/RunCuts.java");
            String right = Files.readString(source);
            String wrong = right.replace("public int cuts() {", "public int cuts() {\n        feed(32);");
            due.isTrue("a fault was put in", !wrong.equals(right));
            Files.writeString(source, wrong);
            Answer answer = run(folder.resolve("main"), "bash", "-c", command);
            due.is(command.strip() + " with a fault in the class ends with", answer.exit, 1);
            due.isTrue(command.strip() + " tells what failed", answer.text.contains("\nFAILED: "));
        } finally {
            delete(folder);
        }
    }

    private static List<String> testsIn(Path folder) {
        List<String> names = new ArrayList<>();
        File[] files = folder.toFile().listFiles();
        for (File file : files == null ? new File[0] : files) {
            if (file.getName().endsWith(".java")) {
                names.add(file.getName().replace(".java", ""));
            }
        }
        return names;
    }

    // ---- programs and folders

    private record Answer(int exit, String text) {
    }

    private static Answer run(Path folder, String... words) throws IOException, InterruptedException {
        ProcessBuilder builder = new ProcessBuilder(words).directory(folder.toFile()).redirectErrorStream(true);
        builder.environment().put(BY_README, "1");
        Process process = builder.start();
        process.getOutputStream().close();
        String text = new String(process.getInputStream().readAllBytes(), StandardCharsets.UTF_8);
        return new Answer(process.waitFor(), text);
    }

    private static void copy(Path from, Path to) throws IOException {
        List<Path> paths;
        try (Stream<Path> walk = Files.walk(from)) {
            paths = walk.filter(path -> !from.relativize(path).startsWith(".git")).toList();
        }
        for (Path path : paths) {
            Files.copy(path, to.resolve(from.relativize(path).toString()));
        }
    }

    private static void delete(Path folder) throws IOException {
        List<Path> paths;
        try (Stream<Path> walk = Files.walk(folder)) {
            paths = walk.sorted(Comparator.reverseOrder()).toList();
        }
        for (Path path : paths) {
            Files.delete(path);
        }
    }
}
