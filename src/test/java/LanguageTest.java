import java.nio.file.Files;
import java.nio.file.Path;
import java.util.ArrayList;
import java.util.LinkedHashMap;
import java.util.List;
import java.util.Map;
import java.util.TreeSet;
import java.util.regex.Matcher;
import java.util.regex.Pattern;

/** The rules of ../shared/LANGUAGE.md that can be read off the text of the class. */
final class LanguageTest {
    private static final Path SOURCE = Path.of("src", "main", "java", "OssuaryVault.java");
    private static final Map<String, String> FORBIDDEN = new LinkedHashMap<>();

    static {
        FORBIDDEN.put("1: a package line", "(?m)^package\\b");
        FORBIDDEN.put("3: a lambda or a method reference", "->|::");
        FORBIDDEN.put("4: an import", "(?m)^import\\b");
        FORBIDDEN.put("4: a library beyond Math.min and Math.max",
                "\\b(?!Math\\b)(?:System|Arrays|Integer|Long|List|ArrayList|Object|Thread)\\b");
        FORBIDDEN.put("4: Math beyond min and max", "\\bMath\\.(?!min\\(|max\\()");
        FORBIDDEN.put("5: static state", "\\bstatic (?!final\\b)(?!class\\b)\\w+(?:\\[\\])* \\w+ *[=;]");
        FORBIDDEN.put("5: a static block", "\\bstatic *\\{");
        FORBIDDEN.put("6: finally, synchronized, assert, try",
                "\\b(?:finally|synchronized|assert|try|catch)\\b");
        FORBIDDEN.put("6: another exception",
                "\\bnew (?!IllegalArgument|IllegalState|IndexOutOfBounds)\\w*Exception\\b");
        FORBIDDEN.put("10: text joined by +", "\" *\\+|\\+ *\"");
    }

    public static void main(String[] args) throws Exception {
        String text = Files.readString(SOURCE);
        String code = text.replaceAll("(?s)/\\*.*?\\*/", "").replaceAll("//[^\n]*", "");
        for (Map.Entry<String, String> rule : FORBIDDEN.entrySet()) {
            Due.is("rule " + rule.getKey(), "none", () -> first(rule.getValue(), code));
        }
        Due.is("signs above 127", "none", () -> first("[^\\x00-\\x7F]", text));
        Due.is("rule 7: an index that its own method does not look at", "[]",
                () -> unseenIndices(code).toString());
        Due.is("rule 11: the longest method is short", true, () -> longestMethod(code) <= 60);
        Due.end("LanguageTest");
    }

    private static String first(String pattern, String text) {
        Matcher m = Pattern.compile(pattern).matcher(text);
        return m.find() ? m.group() : "none";
    }

    /** Each index stands in a method that tests it, or is cut to a byte where it is used. */
    private static List<String> unseenIndices(String code) {
        TreeSet<String> rows = new TreeSet<>();
        Matcher declared = Pattern.compile("\\[\\] (\\w+)(?: =|;)").matcher(code);
        while (declared.find()) {
            rows.add(declared.group(1));
        }
        Pattern use = Pattern.compile("\\b(" + String.join("|", rows) + ")\\[(.*?)\\]");
        List<String> unseen = new ArrayList<>();
        for (String method : methods(code)) {
            Matcher m = use.matcher(method);
            while (m.find()) {
                if (!isLookedAt(m.group(1), m.group(2), method)) {
                    unseen.add(m.group());
                }
            }
        }
        return unseen;
    }

    private static boolean isLookedAt(String row, String index, String method) {
        if (index.contains("[")) {
            return false;
        }
        return index.endsWith("& 255") || method.contains(index + " < " + row + ".length")
                || method.contains(index + " < PLACES") || method.contains("at(" + index + ")");
    }

    private static int longestMethod(String code) {
        int longest = 0;
        for (String method : methods(code)) {
            longest = Math.max(longest, (int) method.lines().count());
        }
        return longest;
    }

    private static List<String> methods(String code) {
        List<String> all = new ArrayList<>();
        int start = 0;
        List<String> lines = code.lines().toList();
        for (int i = 0; i < lines.size(); i++) {
            String line = lines.get(i);
            if (line.matches(" {4}(?: {4})?\\S.*\\) *(?:throws .*)?\\{")) {
                start = i;
            }
            if (line.matches(" {4}(?: {4})?\\}") && start > 0) {
                all.add(String.join("\n", lines.subList(start, i + 1)));
                start = 0;
            }
        }
        return all;
    }
}
