import java.io.IOException;
import java.nio.file.Files;
import java.nio.file.Path;
import java.util.ArrayList;
import java.util.List;

/** The sentences of the document that have been tested, compared with those that it has. */
final class Sentences {
    private static final Path DOCUMENT = Path.of("../shared/DOC.md");
    private static final List<String> tested = new ArrayList<>();
    private static String heading = "";

    private Sentences() {
    }

    static void heading(String of) {
        heading = of;
    }

    /** A sentence, and the test of its own. */
    static void test(String sentence, Runnable test) {
        int before = Check.howMany();
        String told = heading + ": " + sentence;
        Check.part(told + "\n  ");
        test.run();
        Check.due("has checks", Check.howMany() > before, true);
        Check.part("");
        tested.add(told);
    }

    /** A sentence that says nothing a test could find broken. */
    static void nothingToTest(String sentence) {
        tested.add(heading + ": " + sentence);
    }

    /** The same sentences in the same order: none of the document's is left out, and none is told that it has not. */
    static void compareWithDocument() throws IOException {
        List<String> due = ofDocument();
        Check.due("sentences of " + DOCUMENT, due.size() > 100, true);
        for (String sentence : due) {
            Check.due("there is a test of \"" + sentence + "\"", tested.contains(sentence), true);
        }
        Check.same("the sentences in their order", String.join("\n", tested), String.join("\n", due));
    }

    private static List<String> ofDocument() throws IOException {
        List<String> all = new ArrayList<>();
        String of = "";
        for (String line : Files.readAllLines(DOCUMENT)) {
            if (line.startsWith("## ")) {
                of = headingOf(line.substring(3));
            } else if (!of.isEmpty() && !line.isBlank() && !line.startsWith("#") && !isTitle(of, line)) {
                for (String sentence : bare(line).split("(?<=\\.) (?=[A-Z])")) {
                    all.add(of + ": " + sentence);
                }
            }
        }
        return all;
    }

    private static String headingOf(String text) {
        if (text.startsWith("Promise ")) {
            return text.substring(0, text.indexOf(':'));
        }
        return text.equals("What it is") || text.equals("Terms") ? text : "";
    }

    /** In the terms some titles stand as lines of their own. */
    private static boolean isTitle(String of, String line) {
        return of.equals("Terms") && !line.contains(".");
    }

    /** Without the head of the method, and without the marks. */
    private static String bare(String line) {
        return line.replaceFirst("^`[^`]*`: (?=[A-Z])", "").replaceFirst("^- ", "").replace("`", "");
    }
}
