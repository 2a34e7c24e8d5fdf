import java.io.IOException;
import java.lang.reflect.Method;
import java.lang.reflect.Modifier;
import java.nio.charset.StandardCharsets;
import java.nio.file.Files;
import java.nio.file.Path;
import java.util.ArrayList;
import java.util.Arrays;
import java.util.List;
import java.util.regex.Matcher;
import java.util.regex.Pattern;

/**
 * README.md: its example, compiled and run as it stands there, answers what it says, and each call of the
 * face stands in it with what it throws. The tests run in the project's own directory, as .ci/run does it.
 */
public final class ReadmeTests {
    private static final Pattern PRINTED = Pattern.compile("\\s*System\\.out\\.println\\((.*)\\);(?:\\s*// (.*))?");
    private static final Pattern EXCEPTION = Pattern.compile("`(\\w+Exception)`");
    private static final String[] ALL_THE_WAY = {
        "new MergeDesk()", "desk.type(", "desk.table()", "desk.record(", "desk.compile()", "desk.merge()",
        "desk.size()", "desk.out(",
    };

    public static void main(String[] args) throws IOException, InterruptedException {
        String readme = Files.readString(Path.of("README.md"));
        List<String> blocks = blocks(readme, "java");
        Check.due("examples in README.md", 1, blocks.size());
        if (blocks.size() == 1) {
            exampleAnswersWhatItSays(blocks.get(0));
            exampleGoesAllTheWay(blocks.get(0));
        }
        eachCallStandsWithItsLines(readme);
        Check.due("README.md has the one command", true, blocks(readme, "sh").contains(".ci/run"));
        Check.end();
    }

    /** The calls as README.md has them, and the answers that it says they give. */
    private static void exampleAnswersWhatItSays(String example) throws IOException, InterruptedException {
        List<String> calls = new ArrayList<>();
        List<String> answers = new ArrayList<>();
        for (String line : example.split("\n")) {
            Matcher printed = PRINTED.matcher(line);
            if (printed.matches()) {
                calls.add(printed.group(1));
                answers.add(printed.group(2));
            }
        }
        List<String> lines = linesOf(example);
        Check.due("lines that the example prints", answers.size(), lines.size());
        for (int i = 0; i < Math.min(answers.size(), lines.size()); i++) {
            Check.due("README.md, " + calls.get(i), answers.get(i), lines.get(i));
        }
    }

    /** From a new object by type, table, record, compile and merge to the bytes that came out. */
    private static void exampleGoesAllTheWay(String example) {
        for (String call : ALL_THE_WAY) {
            Check.due("README.md's example has " + call, true, example.contains(call));
        }
    }

    /** Each call of the face with what it takes, what it answers, and what it throws, in the face's order. */
    private static void eachCallStandsWithItsLines(String readme) {
        sectionHasItsLines(readme, "MergeDesk()", new Class<?>[0]);
        for (Method method : MergeDesk.class.getDeclaredMethods()) {
            if (Modifier.isPublic(method.getModifiers())) {
                String call = method.getReturnType().getSimpleName() + " " + method.getName() + "(";
                sectionHasItsLines(readme, call, method.getExceptionTypes());
            }
        }
    }

    private static void sectionHasItsLines(String readme, String call, Class<?>[] thrown) {
        String section = sectionOf(readme, call);
        Check.due(call + " takes", true, section.contains("\n- Takes: "));
        Check.due(call + " answers", true, section.contains("\n- Answers: "));
        int from = section.indexOf("\n- Throws: ");
        Check.due(call + " throws", true, from >= 0);
        List<String> said = new ArrayList<>();
        Matcher exception = EXCEPTION.matcher(section);
        while (exception.find()) {
            said.add(exception.group(1));
        }
        Check.due(call + " throws these", Arrays.stream(thrown).map(Class::getSimpleName).toList(), said);
        Check.due(call + " throws nothing", thrown.length == 0, section.startsWith("\n- Throws: nothing.", from));
    }

    private static String sectionOf(String readme, String call) {
        int from = readme.indexOf("\n### `" + call);
        if (from < 0) {
            return "";
        }
        int to = readme.indexOf("\n#", from + 1);
        return readme.substring(from, to < 0 ? readme.length() : to);
    }

    private static List<String> blocks(String readme, String language) {
        List<String> found = new ArrayList<>();
        Matcher block = Pattern.compile("\n```" + language + "\n(.*?)\n```", Pattern.DOTALL).matcher(readme);
        while (block.find()) {
            found.add(block.group(1));
        }
        return found;
    }

    /** Compiles and runs the example in a directory of its own, as README.md tells its reader to. */
    private static List<String> linesOf(String example) throws IOException, InterruptedException {
        Path directory = Files.createTempDirectory("readme");
        Path source = directory.resolve("Example.java");
        Files.writeString(source, example);
        String classes = directory.toString();
        outputOf("javac", "-d", classes, "src/main/java/MergeDesk.java", source.toString());
        String output = outputOf("java", "-cp", classes, "Example");
        try (var files = Files.list(directory)) {
            for (Path file : files.toList()) {
                Files.delete(file);
            }
        }
        Files.delete(directory);
        return output.lines().toList();
    }

    private static String outputOf(String... command) throws IOException, InterruptedException {
        Process process = new ProcessBuilder(command).redirectError(ProcessBuilder.Redirect.INHERIT).start();
        String output = new String(process.getInputStream().readAllBytes(), StandardCharsets.UTF_8);
        Check.due(String.join(" ", command) + " ends with", 0, process.waitFor());
        return output;
    }
}
