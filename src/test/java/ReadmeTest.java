import java.io.IOException;
import java.net.URL;
import java.net.URLClassLoader;
import java.nio.charset.StandardCharsets;
import java.nio.file.Files;
import java.nio.file.Path;
import java.util.ArrayList;
import java.util.List;
import java.util.regex.Matcher;
import java.util.regex.Pattern;
import javax.tools.ToolProvider;

/** The calls that README.md prints answer what stands behind them. Run where the project's root is. */
public final class ReadmeTest {
    private static final Pattern BLOCK = Pattern.compile("```java\n(.*?)```", Pattern.DOTALL);
    private static final Pattern CALL = Pattern.compile("(leg\\.\\w+\\(.*\\)); +// (-?\\d+|[A-Z_]+)(\\W.*)?");
    private static final int FEWEST_BLOCKS = 4;

    public static void main(String[] args) throws IOException, ReflectiveOperationException {
        Due due = new Due("ReadmeTest");
        String readme = Files.readString(Path.of("README.md"), StandardCharsets.UTF_8);
        List<String> blocks = blocksOf(readme);
        due.isTrue("README.md shows how to use the class", blocks.size() >= FEWEST_BLOCKS);
        for (int i = 0; i < blocks.size(); i++) {
            due.isTrue("no answer goes unseen in block " + i, everyCommentIsAnAnswer(blocks.get(i)));
        }
        for (Object[] answer : answersOf(blocks)) {
            due.is("README.md: " + answer[0], (Integer) answer[1], (Integer) answer[2]);
        }
        everyTestIsNamed(due, readme);
        due.end();
    }

    private static List<String> blocksOf(String readme) {
        List<String> blocks = new ArrayList<>();
        Matcher matcher = BLOCK.matcher(readme);
        while (matcher.find()) {
            blocks.add(matcher.group(1));
        }
        return blocks;
    }

    private static boolean everyCommentIsAnAnswer(String block) {
        return block.contains("//")
            && block.lines().allMatch(line -> !line.contains("//") || CALL.matcher(line).matches());
    }

    /** Runs the blocks: of each call its words, its answer and the answer that is printed behind it. */
    @SuppressWarnings("unchecked")
    private static List<Object[]> answersOf(List<String> blocks) throws IOException, ReflectiveOperationException {
        Path folder = Files.createTempDirectory("readme");
        Path source = folder.resolve("ReadmeCalls.java");
        Files.writeString(source, program(blocks), StandardCharsets.UTF_8);
        int compiled = ToolProvider.getSystemJavaCompiler().run(null, null, null, "-cp",
            System.getProperty("java.class.path"), "-d", folder.toString(), source.toString());
        if (compiled != 0) {
            throw new IOException("the calls of README.md do not compile");
        }
        try (URLClassLoader loader = new URLClassLoader(new URL[] {folder.toUri().toURL()})) {
            return (List<Object[]>) loader.loadClass("ReadmeCalls").getMethod("answers").invoke(null);
        } finally {
            Files.delete(source);
            Files.delete(folder.resolve("ReadmeCalls.class"));
            Files.delete(folder);
        }
    }

    private static String program(List<String> blocks) {
        StringBuilder program = new StringBuilder("public final class ReadmeCalls {\n"
            + "public static java.util.List<Object[]> answers() {\n"
            + "java.util.List<Object[]> answers = new java.util.ArrayList<>();\n");
        for (String block : blocks) {
            program.append("{\n");
            block.lines().forEach(line -> program.append(statement(line)).append('\n'));
            program.append("}\n");
        }
        return program.append("return answers;\n}\n}\n").toString();
    }

    private static String statement(String line) {
        Matcher call = CALL.matcher(line);
        if (!call.matches()) {
            return line;
        }
        String answer = call.group(2);
        String due = Character.isUpperCase(answer.charAt(0)) ? "GrainLeg." + answer : answer;
        return "answers.add(new Object[] {\"" + call.group(1) + "\", " + call.group(1) + ", " + due + "});";
    }

    private static void everyTestIsNamed(Due due, String readme) {
        String[] files = Path.of("src/test/java").toFile().list((folder, name) -> name.endsWith("Test.java"));
        for (String file : files == null ? new String[0] : files) {
            String test = file.substring(0, file.length() - ".java".length());
            due.isTrue("README.md tells of " + test, readme.contains("| " + test + " |"));
        }
    }
}
