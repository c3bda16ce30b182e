import java.io.IOException;
import java.nio.file.Files;
import java.nio.file.Path;
import java.util.List;
import java.util.regex.Matcher;
import java.util.regex.Pattern;

/** What of ../shared/LANGUAGE.md can be seen from the text of the class. */
public final class LanguageTest {
    private static final Path SOURCE = Path.of("src/main/java/WetSuitPedalsShoes.java");
    private static final String[] NEVER = {
        "\\b(throw|throws|try|catch|synchronized|assert|import|package|float|double|native|volatile)\\b",
        "->", "::", "\\bstatic\\s*\\{", "\\bnew\\s+\\w+\\s*\\([^)]*\\)\\s*\\{", "\\bprotected\\b",
        "\\b(System\\.(?!arraycopy)|Thread|Random|Runtime|Class|Object|HashMap|Stream)\\b",
        "\\w+Exact\\s*\\(", "\"\\s*\\+", "\\b(equals|hashCode|toString)\\s*\\("};
    private static final int MOST_CLASSES = 12;
    private static final int MOST_LINES = 60;

    private static int wrong = 0;

    private static void fault(String text) {
        wrong++;
        System.out.println(text);
    }

    private static int found(String pattern, String code) {
        Matcher matcher = Pattern.compile(pattern).matcher(code);
        int times = 0;
        while (matcher.find()) {
            times++;
        }
        return times;
    }

    private static void checkLengths(List<String> lines) {
        int start = 0;
        for (int at = 0; at < lines.size(); at++) {
            String line = lines.get(at);
            if (line.matches(" {4}(    )?\\w.*\\) \\{")) {
                start = at;
            }
            if (line.matches(" {4}(    )?\\}") && at - start > MOST_LINES && lines.get(start).matches(".*\\) \\{")
                    && lines.get(start).indexOf(lines.get(start).trim()) == line.indexOf('}')) {
                fault("a method of " + (at - start) + " lines ends in line " + (at + 1));
            }
        }
    }

    private static void checkNames(String code) {
        Matcher face = Pattern.compile("(?m)^ {4}public \\w+ (\\w+)\\(").matcher(code);
        int methods = 0;
        while (face.find()) {
            methods++;
            String name = face.group(1);
            if (found("(?m)^ {4,8}(private |static |final )*\\w+(\\[\\])* " + name + "\\(", code) > 0) {
                fault("another method is named " + name);
            }
        }
        if (methods != 35) {
            fault("the face has " + methods + " methods");
        }
    }

    public static void main(String[] args) throws IOException {
        List<String> lines = Files.readAllLines(SOURCE);
        String code = String.join("\n", lines).replaceAll("(?s)/\\*.*?\\*/", "").replaceAll("//[^\n]*", "");
        for (String pattern : NEVER) {
            if (found(pattern, code) > 0) {
                fault("never: " + pattern);
            }
        }
        for (char sign : code.toCharArray()) {
            if (sign > 126) {
                fault("a sign beyond 126: " + (int) sign);
            }
        }
        if (found("\\bclass \\w", code) > MOST_CLASSES) {
            fault("too many classes");
        }
        if (found("\\((\\s*[\\w\\[\\]]+ \\w+,){7}", code) > 0) {
            fault("more than seven parameters");
        }
        if (found("\\bstatic (?!final|int\\b|long\\b|boolean\\b|void\\b)", code) > 0) {
            fault("a static field that is not final");
        }
        checkNames(code);
        checkLengths(lines);
        System.out.println(wrong == 0 ? "kept to the language" : wrong + " faults of language");
        if (wrong != 0) {
            System.exit(1);
        }
    }
}
