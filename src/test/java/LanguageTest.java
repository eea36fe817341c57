import java.io.IOException;
import java.nio.file.Files;
import java.nio.file.Path;
import java.util.List;
import java.util.regex.Matcher;
import java.util.regex.Pattern;

/** What of LANGUAGE.md can be seen by looking for words in the program. */
public final class LanguageTest {
    private static final Check check = new Check();
    private static final List<String> FORBIDDEN = List.of(
            "\\b(throw|throws|try|catch|finally|synchronized|assert|import|package)\\b",
            "\\b(protected|native|transient|volatile|strictfp)\\b",
            "->", "::", "\\bnull\\b", "\\bstatic *\\{", "\\binstanceof\\b", "@",
            "\\b\\w*Exact\\b", "\\b(hashCode|toString|equals|getClass|clone|finalize|wait|notify)\\b",
            "\\b(Object|Class|Thread|Runtime|Random|Exception|Error|Double|Float|Map|Set)\\b",
            "\\b(double|float)\\b", "\\bjava\\.", "\\bwhile *\\( *true", "\\bfor *\\( *; *;",
            "\\bSystem\\.(?!arraycopy\\b)", "\\bMath\\.(?!(abs|min|max)\\b)", "\\bLong\\.(?!bitCount\\b)",
            "\\bString *\\[", "\"\\s*\\+|\\+\\s*\"");

    public static void main(String[] args) throws IOException {
        String source = Files.readString(Path.of("src/main/java/PeasDrum.java"));
        for (int i = 0; i < source.length(); i++) {
            char c = source.charAt(i);
            check.isTrue("sign " + (int) c + " at " + i + " is plain", c == '\n' || c >= 32 && c < 127);
        }
        String bare = source.replaceAll("(?s)/\\*.*?\\*/", "").replaceAll("//[^\n]*", "")
                .replaceAll("\"[a-z]*\"", "\"\"");
        for (String word : FORBIDDEN) {
            Matcher m = Pattern.compile(word).matcher(bare);
            check.isTrue("without " + word, !m.find());
        }
        methods(bare.split("\n"));
        check.end();
    }

    /** Methods are at most sixty lines long, and take at most seven parameters. */
    private static void methods(String[] lines) {
        Pattern head = Pattern.compile("^( {4}| {8})(?! )[\\w\\[\\] ]+\\(([^)]*)\\) \\{$");
        int methods = 0;
        for (int i = 0; i < lines.length; i++) {
            Matcher m = head.matcher(lines[i]);
            if (m.matches() && !lines[i].trim().matches("(if|for|while|switch)\\b.*")) {
                methods++;
                int end = i;
                while (!lines[end].equals(m.group(1) + "}")) {
                    end++;
                }
                check.isTrue("at most sixty lines: " + lines[i].trim(), end - i + 1 <= 60);
                check.isTrue("at most seven parameters: " + lines[i].trim(),
                        m.group(2).split(",").length <= 7);
            }
        }
        check.isTrue("methods were found", methods > 100);
    }
}
