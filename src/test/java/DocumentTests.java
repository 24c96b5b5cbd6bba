import java.io.IOException;
import java.nio.file.Files;
import java.nio.file.Path;
import java.util.Arrays;

/**
 * Holds the edges against ../shared/DOC.md, when all of them have run: each sentence stands there,
 * each was tested, and no word of the Terms and of the promises is left without a sentence.
 */
final class DocumentTests {
    private static final Path DOCUMENT = Path.of("../shared/DOC.md");
    private static final int PROMISES = 32;

    private DocumentTests() {
    }

    static void run() {
        String document = read();
        for (int promise = Edge.TERMS; promise <= PROMISES; promise++) {
            String section = promise == Edge.TERMS ? terms(document) : promise(document, promise);
            Check.holds("there is a section " + promise, !section.isEmpty());
            holdAgainst(section, promise);
        }
    }

    private static void holdAgainst(String section, int promise) {
        boolean[] told = new boolean[section.length()];
        for (Edge edge : Edge.all()) {
            if (edge.promise == promise) {
                int from = section.indexOf(edge.sentence);
                Check.holds(edge.name() + " stands in the document", from >= 0);
                Check.holds(edge.name() + " has answers", edge.hasAnswers());
                while (from >= 0) {
                    Arrays.fill(told, from, from + edge.sentence.length(), true);
                    from = section.indexOf(edge.sentence, from + 1);
                }
            }
        }
        Check.due("section " + promise + ", words without a test: " + untold(section, told),
            untold(section, told).length(), 0);
    }

    /** What no edge tells, but for blanks and signs. */
    private static String untold(String section, boolean[] told) {
        StringBuilder rest = new StringBuilder();
        for (int i = 0; i < section.length(); i++) {
            char c = section.charAt(i);
            if (!told[i] && Character.isLetterOrDigit(c)) {
                rest.append(c);
            } else if (rest.length() > 0 && rest.charAt(rest.length() - 1) != ' ') {
                rest.append(' ');
            }
        }
        return rest.toString();
    }

    /** The Terms on one line, without their headings and fences, behind the sentence on 512 calls. */
    private static String terms(String document) {
        String calls = between(document, "An object is used", "what later calls answer is free.");
        String terms = between(document, "## Terms", "Ahead of the calls `row`");
        terms = terms.replace("## Terms", "").replace("```text", "").replace("```", "");
        return oneLine(calls + terms.replaceAll("======== [0-9] ", ""));
    }

    private static String promise(String document, int number) {
        String section = between(document, "## Promise " + number + ":", number < PROMISES
            ? "## Promise " + (number + 1) + ":" : "## Not promised");
        int signatureEnd = section.indexOf("`: ");
        return signatureEnd < 0 ? "" : oneLine(section.substring(signatureEnd + 3));
    }

    private static String between(String document, String first, String next) {
        int from = document.indexOf(first);
        int to = document.indexOf(next, Math.max(from, 0));
        return from < 0 || to < 0 ? "" : document.substring(from, to);
    }

    private static String oneLine(String text) {
        return text.replaceAll("\\s+", " ").trim();
    }

    private static String read() {
        try {
            return Files.readString(DOCUMENT);
        } catch (IOException e) {
            Check.holds("the document is at " + DOCUMENT, false);
            return "";
        }
    }
}
