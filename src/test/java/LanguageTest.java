import java.io.IOException;
import java.nio.file.Files;
import java.nio.file.Path;
import java.util.ArrayDeque;
import java.util.Deque;
import java.util.Set;
import java.util.regex.Matcher;
import java.util.regex.Pattern;

/** What of ../shared/LANGUAGE.md can be seen in the text of the program. */
public final class LanguageTest {
    private static final Set<String> LIBRARY = Set.of("System.arraycopy", "Integer.bitCount", "Math.max", "Math.min");

    public static void main(String[] args) throws IOException {
        String source = Files.readString(Path.of("src/main/java/CoatsHall.java"));
        String code = source.replaceAll("(?s)/\\*.*?\\*/", "").replaceAll("//[^\n]*", "");
        String bare = code.replaceAll("\"[^\"]*\"", "\"\"").replaceAll("'[^']*'", "0");
        none(bare, "\\b(throw|throws|try|catch|finally|synchronized|assert|import|package|native|volatile|instanceof|enum|record|interface)\\b");
        none(bare, "->|::|@");
        none(bare, "\\b(float|double|Object|Random|Thread|Runtime)\\b");
        none(bare, "\"\"\\s*\\+|\\+\\s*\"\"");
        none(bare, "(?m)^\\s*(public|private)? ?static (?!final)[^(]*;");
        library(bare);
        objects(bare);
        lengths(bare);
        signs(source);
        Due.end();
    }

    private static void none(String code, String form) {
        Matcher m = Pattern.compile(form).matcher(code);
        Due.is("rule broken by '" + (m.reset().find() ? m.group() : "") + "'", m.reset().find() ? 1 : 0, 0);
    }

    private static void library(String code) {
        Matcher m = Pattern.compile("\\b(System|Integer|Long|Math|Arrays|String|Character|List)\\.(\\w+)").matcher(code);
        while (m.find()) Due.is(m.group() + " is in rule 4", LIBRARY.contains(m.group()) ? 1 : 0, 1);
    }

    /** All objects are made with the hall itself: none by a call. */
    private static void objects(String code) {
        for (String line : code.split("\n")) {
            if (line.contains("new ")) Due.is("a field's: " + line.trim(), line.matches("\\s+(private )?(final )?\\S+ \\w+ = new .*;") ? 1 : 0, 1);
        }
    }

    /** Methods of some sixty lines at most, seven parameters, twelve classes. */
    private static void lengths(String code) {
        Deque<Integer> opened = new ArrayDeque<>();
        String[] lines = code.split("\n");
        int classes = 0;
        for (int i = 0; i < lines.length; i++) {
            if (lines[i].contains(" class ")) classes++;
            Matcher m = Pattern.compile("^\\s+[\\w\\[\\] ]+ \\w+\\(([^()]*)\\) \\{$").matcher(lines[i]);
            if (m.find()) Due.is("parameters: " + lines[i].trim(), m.group(1).split(",").length > 7 ? 1 : 0, 0);
            for (char sign : lines[i].toCharArray()) {
                if (sign == '{') opened.push(i);
                if (sign == '}') {
                    int start = opened.pop();
                    if (!lines[start].contains(" class ")) Due.is("lines from " + lines[start].trim(), i - start > 60 ? 1 : 0, 0);
                }
            }
        }
        Due.is("at most twelve classes", classes > 12 ? 1 : 0, 0);
    }

    private static void signs(String source) {
        int others = 0;
        for (char sign : source.toCharArray()) if (sign > 126 || sign < 32 && sign != '\n') others++;
        Due.is("signs other than plain ones", others, 0);
    }
}
