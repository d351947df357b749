import java.io.IOException;
import java.nio.file.Files;
import java.nio.file.Path;
import java.util.ArrayList;
import java.util.HashSet;
import java.util.List;
import java.util.Set;

/** The sentences of the document that name an edge, each with a test of its own. */
final class Sentences {
    private static final Path DOC = Path.of("..", "shared", "DOC.md");
    /** By promises; what stands ahead of the first one is at 0. */
    private static final List<String> TEXTS = new ArrayList<>();
    private static final Set<String> TOLD = new HashSet<>();

    private Sentences() {
    }

    static void read() throws IOException {
        String promised = Files.readString(DOC).split("(?m)^## Not promised")[0];
        TEXTS.addAll(List.of(promised.split("(?m)^## Promise \\d+: .*$")));
        Due.is("how many promises the document has", 46, () -> TEXTS.size() - 1);
    }

    /** Runs the test of a sentence, which stands in the document under this promise. */
    static void ask(int promise, String sentence, Runnable test) {
        String name = "P" + promise + " \"" + sentence + "\"";
        Due.is(name + " stands in the document", true,
                () -> TEXTS.get(promise).replaceAll("\\s+", " ").contains(sentence));
        int asked = Due.asked();
        int wrong = Due.wrong();
        test.run();
        boolean asks = Due.asked() > asked;
        Due.is(name + " has a test that asks something", true, () -> asks);
        if (Due.wrong() > wrong) {
            System.out.println("broken is " + name);
        }
        TOLD.add(promise + sentence);
    }

    /** Whoever adds a sentence to the document is told which one has no test yet. */
    static void end(String test, int first, int last) {
        for (int promise = first; promise <= last; promise++) {
            for (String line : TEXTS.get(promise).split("\n")) {
                if (namesAnEdge(line)) {
                    boolean told = TOLD.contains(promise + line);
                    Due.is("P" + promise + " has a test of: " + line, true, () -> told);
                }
            }
        }
        Due.end(test);
    }

    private static boolean namesAnEdge(String line) {
        return line.startsWith("Throws ")
                || line.startsWith("Returns ") && (line.contains(";") || line.contains("("));
    }
}
