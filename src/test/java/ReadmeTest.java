import java.io.IOException;
import java.lang.reflect.Method;
import java.lang.reflect.Modifier;
import java.nio.file.Files;
import java.nio.file.Path;
import java.util.ArrayList;
import java.util.Collections;
import java.util.List;
import java.util.regex.Matcher;
import java.util.regex.Pattern;
import java.util.stream.Stream;

/** What README.md says: its program, its table of calls, its list of tests and its commands hold. */
final class ReadmeTest {
    private static final Pattern PRINTED = Pattern.compile("println\\(.*\\); *// ([^:]*): ");
    private static final Pattern NAME = Pattern.compile("`(\\w+)`");
    private static final Pattern LISTED_TEST = Pattern.compile("(?m)^- `(\\w+)`:");

    private final Path root;
    private final String readme;

    private ReadmeTest(Path root) throws IOException {
        this.root = root;
        this.readme = Files.readString(root.resolve("README.md"));
    }

    public static void main(String[] args) throws Exception {
        ReadmeTest test = new ReadmeTest(Path.of(args.length > 0 ? args[0] : "."));
        List<String> commands = test.blocks("sh");
        Check.answers("the blocks of commands", 3, commands.size());
        test.checkProgram(commands.get(0));
        test.checkTable();
        Check.same("the command for all tests", ".ci/run\n", commands.get(1));
        Check.holds("it can be run", Files.isExecutable(test.root.resolve(".ci/run")));
        test.checkListOfTests();
        test.checkTestsAlone(commands.get(2));
        Check.end("ReadmeTest");
    }

    private List<String> blocks(String language) {
        return found(Pattern.compile("(?ms)^```" + language + "\n(.*?)^```$"), readme);
    }

    private static List<String> found(Pattern pattern, String text) {
        List<String> found = new ArrayList<>();
        Matcher matcher = pattern.matcher(text);
        while (matcher.find()) {
            found.add(matcher.group(1));
        }
        return found;
    }

    private void checkProgram(String commands) throws Exception {
        String program = blocks("java").get(0);
        List<String> due = found(PRINTED, program);
        Check.holds("the program tells what it prints", !due.isEmpty());
        Check.answers("each line that prints tells what", program.split("println").length - 1, due.size());
        Path place = Files.createTempDirectory("readme");
        Files.copy(root.resolve("src/main/java/Countcote.java"), place.resolve("Countcote.java"));
        Files.writeString(place.resolve("Example.java"), program);
        Check.same("what the program prints", String.join("\n", due) + "\n", outputOf(commands, place));
        remove(place);
    }

    private static String outputOf(String commands, Path place) throws Exception {
        Process process = new ProcessBuilder("sh", "-e", "-c", commands)
                .directory(place.toFile()).redirectError(ProcessBuilder.Redirect.INHERIT).start();
        process.getOutputStream().close();
        String output = new String(process.getInputStream().readAllBytes());
        Check.answers("the end of " + commands.trim(), 0, process.waitFor());
        return output;
    }

    private static void remove(Path place) throws IOException {
        try (Stream<Path> files = Files.list(place)) {
            for (Path file : files.toList()) {
                Files.delete(file);
            }
        }
        Files.delete(place);
    }

    private void checkTable() {
        List<String> listed = new ArrayList<>();
        for (String line : readme.split("\n")) {
            if (line.startsWith("| `")) {
                listed.addAll(found(NAME, line));
            }
        }
        List<String> face = new ArrayList<>();
        for (Method method : Countcote.class.getDeclaredMethods()) {
            if (Modifier.isPublic(method.getModifiers())) {
                face.add(method.getName());
            }
        }
        sameNames("the calls of the table", face, listed);
    }

    private void checkListOfTests() throws IOException {
        List<String> tests = new ArrayList<>();
        try (Stream<Path> files = Files.list(root.resolve("src/test/java"))) {
            for (Path file : files.toList()) {
                if (Files.readString(file).contains("static void main(")) {
                    tests.add(file.getFileName().toString().replace(".java", ""));
                }
            }
        }
        String section = readme.substring(readme.indexOf("## Tests"));
        sameNames("the tests of the list", tests, found(LISTED_TEST, section));
    }

    private void checkTestsAlone(String commands) throws Exception {
        Check.holds("this test does not start itself", !commands.contains("ReadmeTest"));
        String output = outputOf(commands, root);
        for (String test : found(Pattern.compile("java -cp \\S+ (\\w+)"), commands)) {
            Check.holds(test + " alone", output.contains(test + ": all is as due\n"));
        }
    }

    private static void sameNames(String what, List<String> due, List<String> got) {
        Collections.sort(due);
        Collections.sort(got);
        Check.same(what, due.toString(), got.toString());
    }
}
