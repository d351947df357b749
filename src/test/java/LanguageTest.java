import java.nio.file.Files;
import java.nio.file.Path;
import java.util.LinkedHashMap;
import java.util.List;
import java.util.Map;
import java.util.regex.Matcher;
import java.util.regex.Pattern;

/** The rules of ../shared/LANGUAGE.md that can be read off the text of the class. */
final class LanguageTest {
    private static final Path SOURCE = Path.of("src", "main", "java", "OssuaryVault.java");
    private static final Map<String, String> FORBIDDEN = new LinkedHashMap<>();

    static {
        FORBIDDEN.put("1: a package line", "(?m)^package\\b");
        FORBIDDEN.put("3: a lambda or a method reference", "->|::");
        FORBIDDEN.put("4: an import", "(?m)^import\\b");
        FORBIDDEN.put("4: a library beyond Math.min and Math.max",
                "\\b(?!Math\\b)(?:System|Arrays|Integer|Long|List|ArrayList|Object|Thread)\\b");
        FORBIDDEN.put("4: Math beyond min and max", "\\bMath\\.(?!min\\(|max\\()");
        FORBIDDEN.put("5: static state", "\\bstatic (?!final\\b)(?!class\\b)\\w+(?:\\[\\])* \\w+ *[=;]");
        FORBIDDEN.put("5: a static block", "\\bstatic *\\{");
        FORBIDDEN.put("6: finally, synchronized, assert, try",
                "\\b(?:finally|synchronized|assert|try|catch)\\b");
        FORBIDDEN.put("6: another exception",
                "\\bnew (?!IllegalArgument|IllegalState|IndexOutOfBounds)\\w*Exception\\b");
        FORBIDDEN.put("10: text joined by +", "\" *\\+|\\+ *\"");
    }

    public static void main(String[] args) throws Exception {
        String text = Files.readString(SOURCE);
        String code = text.replaceAll("(?s)/\\*.*?\\*/", "").replaceAll("//[^\n]*", "");
        for (Map.Entry<String, String> rule : FORBIDDEN.entrySet()) {
            Due.is("rule " + rule.getKey(), "none", () -> first(rule.getValue(), code));
        }
        Due.is("signs above 127", "none", () -> first("[^\\x00-\\x7F]", text));
        Due.is("rule 11: the longest method is short", true, () -> longestMethod(code) <= 60);
        Due.end("LanguageTest");
    }

    private static String first(String pattern, String text) {
        Matcher m = Pattern.compile(pattern).matcher(text);
        return m.find() ? m.group() : "none";
    }

    private static int longestMethod(String code) {
        int longest = 0;
        int start = 0;
        List<String> lines = code.lines().toList();
        for (int i = 0; i < lines.size(); i++) {
            String line = lines.get(i);
            if (line.matches(" {4}(?: {4})?\\S.*\\) *(?:throws .*)?\\{")) {
                start = i;
            }
            if (line.matches(" {4}(?: {4})?\\}") && start > 0) {
                longest = Math.max(longest, i - start + 1);
                start = 0;
            }
        }
        return longest;
    }
}
