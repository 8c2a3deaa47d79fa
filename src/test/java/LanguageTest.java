import java.io.IOException;
import java.nio.charset.StandardCharsets;
import java.nio.file.Files;
import java.nio.file.Path;
import java.util.List;
import java.util.regex.Matcher;
import java.util.regex.Pattern;

/** What of LANGUAGE.md can be seen in the source by its words alone. Run where the project's root is. */
public final class LanguageTest {
    private static final String[] RULED_OUT = {"\\bthrows?\\b", "\\btry\\b", "\\bcatch\\b", "\\bsynchronized\\b",
        "\\bassert\\b", "\\bpackage\\b", "\\bprotected\\b", "\\bnative\\b", "\\bvolatile\\b", "->", "::", "Exact\\b",
        "\\bObject\\b", "\\bhashCode\\b", "\\bThread\\b", "static\\s*\\{", "System\\.(?!arraycopy\\b)", "\\bRandom\\b",
        "while\\s*\\(\\s*true", "for\\s*\\(\\s*;"};
    private static final Pattern METHOD = Pattern.compile("( {4}| {8})[A-Za-z].*\\) \\{");
    private static final int LONGEST_METHOD = 60;

    public static void main(String[] args) throws IOException {
        Due due = new Due("LanguageTest");
        Path file = Path.of("src/main/java/GrainLeg.java");
        String source = Files.readString(file, StandardCharsets.UTF_8);
        due.isTrue("all signs are plain", source.chars().allMatch(sign -> sign < 128));
        String code = source.replaceAll("(?s)/\\*.*?\\*/", "").replaceAll("//[^\n]*", "");
        for (String pattern : RULED_OUT) {
            Matcher matcher = Pattern.compile(pattern).matcher(code);
            due.isTrue("no " + pattern, !matcher.find());
        }
        shortMethods(due, source.lines().toList());
        due.end();
    }

    private static void shortMethods(Due due, List<String> lines) {
        int methods = 0;
        for (int from = 0; from < lines.size(); from++) {
            Matcher matcher = METHOD.matcher(lines.get(from));
            if (!matcher.matches()) {
                continue;
            }
            int to = from;
            while (to < lines.size() - 1 && !lines.get(to).equals(matcher.group(1) + "}")) {
                to++;
            }
            methods++;
            due.isTrue("short: " + lines.get(from).strip(), to - from < LONGEST_METHOD);
        }
        due.isTrue("methods were found", methods > 20);
    }
}
