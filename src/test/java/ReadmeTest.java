import java.io.IOException;
import java.nio.charset.StandardCharsets;
import java.nio.file.Files;
import java.nio.file.Path;
import java.nio.file.StandardCopyOption;
import java.util.ArrayList;
import java.util.Comparator;
import java.util.List;
import java.util.regex.Matcher;
import java.util.regex.Pattern;
import java.util.stream.Stream;

/** README.md's commands are run as they stand there, in a copy of the project; its example must answer as it says. */
public final class ReadmeTest extends Checks {
    private static final Path README = Path.of("README.md");
    private static final Path ALL_TESTS = Path.of(".ci/run");
    private static final Pattern BLOCK = Pattern.compile("(?ms)^```(\\w+)\n(.*?)^```$");
    private static final Pattern ANSWERED = Pattern.compile("\\s*(b\\.[^;]*);\\s*// (-?\\d+): .*");
    private static final int LEAST_CALLS = 10;

    public static void main(String[] args) throws IOException, InterruptedException {
        String readme = Files.readString(README);
        Path scratch = Files.createTempDirectory("readme");
        try {
            Path project = copyProject(scratch);
            commands(readme, project);
            example(readme, project);
            everyTestIsNamed(readme);
            mainSourceIsNamed(readme);
        } finally {
            delete(scratch);
        }
        end();
    }

    private static List<String> blocks(String readme, String language) {
        List<String> found = new ArrayList<>();
        Matcher m = BLOCK.matcher(readme);
        while (m.find()) {
            if (m.group(1).equals(language)) {
                found.add(m.group(2));
            }
        }
        return found;
    }

    /** As a clean checkout has it: no out, and ../shared beside it. */
    private static Path copyProject(Path scratch) throws IOException {
        Path project = Files.createDirectory(scratch.resolve("main"));
        copyTree(Path.of("src"), project.resolve("src"));
        Files.copy(README, project.resolve(README));
        Files.createSymbolicLink(scratch.resolve("shared"), Path.of("../shared").toRealPath());
        return project;
    }

    private static void copyTree(Path from, Path to) throws IOException {
        try (Stream<Path> all = Files.walk(from)) {
            for (Path p : all.toList()) {
                Files.copy(p, to.resolve(from.relativize(p)), StandardCopyOption.COPY_ATTRIBUTES);
            }
        }
    }

    private static void delete(Path scratch) throws IOException {
        try (Stream<Path> all = Files.walk(scratch)) {
            for (Path p : all.sorted(Comparator.reverseOrder()).toList()) {
                Files.delete(p);
            }
        }
    }

    private static void commands(String readme, Path project) throws IOException, InterruptedException {
        about("README.md, its commands");
        List<String> all = blocks(readme, "sh");
        due("blocks that run all tests", all.stream().filter(ReadmeTest::runsAll).count(), 1);
        due(ALL_TESTS + " can be run", Files.isExecutable(ALL_TESTS) ? 1 : 0, 1);
        String made = all.isEmpty() ? "" : all.get(0);
        due("the first one makes the class: " + made.strip(), run(project, made), 0);
        due("it is there", Files.exists(project.resolve("out/FoldedBoard.class")) ? 1 : 0, 1);
        int tests = 0;
        for (String block : all) {
            // this test is itself one of those that .ci/run runs
            if (!runsAll(block)) {
                delete(project.resolve("out"));
                due(block.strip(), run(project, block), 0);
                tests += block.contains("java -cp out") ? 1 : 0;
            }
        }
        due("a test of the project, one of ../shared/tests, other games", tests, 3);
    }

    private static boolean runsAll(String block) {
        return block.strip().equals(ALL_TESTS.toString());
    }

    private static int run(Path directory, String block) throws IOException, InterruptedException {
        Process p = new ProcessBuilder("sh", "-e", "-c", block).directory(directory.toFile()).redirectErrorStream(true).start();
        p.getOutputStream().close();
        String said = new String(p.getInputStream().readAllBytes(), StandardCharsets.UTF_8);
        int code = p.waitFor();
        if (code != 0) {
            System.out.println(said);
        }
        return code;
    }

    private static void example(String readme, Path project) throws IOException, InterruptedException {
        about("README.md, its example");
        List<String> all = blocks(readme, "java");
        due("examples", all.size(), 1);
        StringBuilder body = new StringBuilder();
        int calls = 0;
        for (String line : String.join("\n", all).split("\n")) {
            Matcher m = ANSWERED.matcher(line);
            boolean answered = m.matches();
            due("an answer stands behind it, or it makes the object: " + line, answered || line.contains("new ") ? 1 : 0, 1);
            body.append(answered ? heldAgainst(m.group(1), m.group(2)) : line).append('\n');
            calls += answered ? 1 : 0;
        }
        due("enough calls, of " + calls, calls >= LEAST_CALLS ? 1 : 0, 1);
        Files.writeString(project.resolve("Example.java"), "public class Example {\n static int wrong;\n"
            + " static void due(String call, long got, long want) {\n"
            + "  if (got != want) { wrong++; System.out.println(call + \" answered \" + got); }\n }\n"
            + " public static void main(String[] args) {\n" + body + "  System.exit(wrong == 0 ? 0 : 1);\n }\n}\n");
        due("its answers", run(project, "javac -cp out -d out Example.java\njava -cp out Example"), 0);
    }

    private static String heldAgainst(String call, String answer) {
        return "due(\"" + call.replace("\"", "\\\"") + "\", " + call + ", " + answer + "L);";
    }

    private static void everyTestIsNamed(String readme) throws IOException {
        about("README.md, its list of tests");
        try (Stream<Path> all = Files.list(Path.of("src/test/java"))) {
            for (Path p : all.sorted().toList()) {
                String name = p.getFileName().toString().replace(".java", "");
                due("names " + name, readme.contains("`" + name + "`") ? 1 : 0, 1);
            }
        }
        Matcher named = Pattern.compile("`(\\w+Test)`").matcher(readme);
        while (named.find()) {
            due("there is " + named.group(1), Files.exists(Path.of("src/test/java", named.group(1) + ".java")) ? 1 : 0, 1);
        }
    }

    private static void mainSourceIsNamed(String readme) {
        about("README.md, the files it names");
        for (String name : new String[] {"src/main/java/FoldedBoard.java", "../shared/DOC.md", "../shared/LANGUAGE.md"}) {
            due("names " + name, readme.contains("`" + name + "`") ? 1 : 0, 1);
            due("there is " + name, Files.exists(Path.of(name)) ? 1 : 0, 1);
        }
    }
}
