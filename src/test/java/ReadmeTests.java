import java.io.File;
import java.io.IOException;
import java.nio.charset.StandardCharsets;
import java.nio.file.Files;
import java.nio.file.Path;
import java.util.ArrayList;
import java.util.HashMap;
import java.util.List;
import java.util.Map;
import java.util.regex.Matcher;
import java.util.regex.Pattern;

/** Holds README.md against ../shared/DOC.md, and runs its example. */
final class ReadmeTests {
    private static final Path README = Path.of("README.md");
    private static final Path DOCUMENT = Path.of("../shared/DOC.md");
    private static final Path TESTS = Path.of("src/test/java");
    private static final int CALLS = 31;
    private static final Pattern PROMISE = Pattern.compile(
        "## Promise (\\d+): \\w+\n\n`int (\\w+)\\(([^)]*)\\)`: ([^\n]*)");
    private static final Pattern REFUSAL = Pattern.compile(
        "\\b(NONE|BAD|STATE|FULL|NULL|PLACE|KIND|SIZE|STORE)[.;:]");
    private static final Pattern NUMBER = Pattern.compile("\\d+");

    private ReadmeTests() {
    }

    static void run() {
        String readme;
        String document;
        try {
            readme = Files.readString(README);
            document = Files.readString(DOCUMENT);
            example(readme);
            names(readme);
        } catch (IOException | InterruptedException broken) {
            Check.holds("README.md is read, and its example runs: " + broken, false);
            return;
        }
        calls(readme, document);
        answers(readme, document);
        feeding(readme);
        ranges(readme);
    }

    /** Each call has one row, by the document's parameters, refusals and numbers. */
    private static void calls(String readme, String document) {
        String terms = document.substring(document.indexOf("## Terms"), document.indexOf("## Promise 1:"));
        Matcher promise = PROMISE.matcher(document);
        int calls = 0;
        while (promise.find()) {
            calls++;
            String call = promise.group(2) + "(" + promise.group(3).replaceAll("\\b(int|long) ", "") + ")";
            String name = "README.md, promise " + promise.group(1) + ", " + call;
            String row = row(readme, "`" + call + "`");
            Check.holds(name + " has one row", !row.isEmpty());
            String due = all(REFUSAL, promise.group(4)).toString();
            String told = all(REFUSAL, row).toString();
            Check.holds(name + ": refusals " + told + ", the document's are " + due, told.equals(due));
            List<String> numbers = all(NUMBER, promise.group(4) + " " + terms);
            for (String number : all(NUMBER, row)) {
                Check.holds(name + ": " + number + " is a number of the document", numbers.contains(number));
            }
        }
        Check.due("README.md, calls of the document", calls, CALLS);
    }

    /** The answers that are no results bear the document's numbers and names. */
    private static void answers(String readme, String document) {
        Map<String, Integer> due = new HashMap<>();
        Matcher constant = Pattern.compile("([A-Z]+) = (-\\d+)").matcher(document);
        while (constant.find()) {
            due.put(constant.group(1), Integer.parseInt(constant.group(2)));
        }
        Matcher finding = Pattern.compile("(\\d) (NULL|PLACE|KIND|SIZE|STORE) \\(").matcher(document);
        while (finding.find()) {
            due.put(finding.group(2), -1000010 - Integer.parseInt(finding.group(1)));
            String told = row(readme, String.valueOf(due.get(finding.group(2))));
            String number = finding.group(1);
            Check.holds("README.md, finding " + number, told.contains("| a finding, " + number + ":"));
        }
        Check.due("README.md, names of answers", due.size(), 9);
        for (Map.Entry<String, Integer> answer : due.entrySet()) {
            String row = row(readme, String.valueOf(answer.getValue()));
            String cells = "| " + answer.getValue() + " | " + answer.getKey() + " |";
            Check.holds("README.md, " + answer, row.startsWith(cells));
        }
    }

    /** The one call of feed that the page tells alone, and its text of a ridge's form. */
    private static void feeding(String readme) {
        Matcher call = Pattern.compile("`feed\\(0x([0-9a-f]+)L, (\\d)\\)` feeds `([^`]*)`").matcher(readme);
        Check.holds("README.md tells a call of feed", call.find());
        String text = call.group(3);
        Check.due("README.md, its word", Long.parseLong(call.group(1), 16), Texts.word(text, 0, text.length()));
        Check.due("README.md, its bytes", Integer.parseInt(call.group(2)), text.length());
    }

    /** Each number of a text has the range that the page tells: its ends are read, what is beyond is fault 2. */
    private static void ranges(String readme) {
        Matcher told = Pattern.compile("([A-Z]+)(, ([A-Z]+))? (\\d+) to (\\d+)").matcher(
            block(readme, "```text\nlaw TAKE", "```text\n"));
        int numbers = 0;
        while (told.find()) {
            int least = Integer.parseInt(told.group(4));
            int most = Integer.parseInt(told.group(5));
            numbers += range(told.group(1), least, most);
            numbers += told.group(3) == null ? 0 : range(told.group(3), least, most);
        }
        Check.due("README.md, numbers of a text", numbers, 9);
    }

    private static int range(String name, int least, int most) {
        String form = "law TAKE DUE PRICE;mill hooded X Y FLOORS SAILS AGE CORN;";
        int place = form.replaceAll("\\b" + name + "\\b.*", "").replaceAll("[A-Z]+", "1").length();
        for (int v = Math.max(least - 1, 0); v <= Math.min(most + 1, 999); v++) {
            WindTaken x = new WindTaken();
            String text = form.replaceAll("\\b" + name + "\\b", String.valueOf(v)).replaceAll("[A-Z]+", "1");
            int read = Texts.read(x, text);
            boolean within = v >= least && v <= most;
            Check.due("README.md, a text with " + name + " " + v, read, within ? 1 : -1000100 - place);
            Check.due("README.md, its fault", x.fault(), within ? 0 : 2);
        }
        return 1;
    }

    /** Every class of tests is told of. */
    private static void names(String readme) throws IOException {
        try (var files = Files.list(TESTS)) {
            for (Path file : files.toList()) {
                String name = file.getFileName().toString().replace(".java", "");
                if (name.endsWith("Tests") || name.endsWith("Edges")) {
                    Check.holds("README.md tells of " + name, readme.contains("`" + name + "`"));
                }
            }
        }
    }

    /** The example prints what the page tells. */
    private static void example(String readme) throws IOException, InterruptedException {
        String code = block(readme, "```java\npublic final class Example", "```java\n");
        String due = block(readme, "It prints:\n\n```text\n", "It prints:\n\n```text\n");
        Check.holds("README.md has an example", !code.isEmpty() && !due.isEmpty());
        Path directory = Files.createTempDirectory("readme");
        Path file = directory.resolve("Example.java");
        String classes = System.getProperty("java.class.path");
        try {
            Files.writeString(file, code);
            output("javac", "-Xlint:all", "-Werror", "-cp", classes, "-d", directory.toString(), file.toString());
            String[] told = due.split("\n");
            String[] printed = output("java", "-cp", classes + File.pathSeparator + directory, "Example").split("\\R");
            Check.due("README.md, lines that its example prints", printed.length, told.length);
            for (int i = 0; i < Math.min(told.length, printed.length); i++) {
                Check.holds("README.md, its example prints '" + printed[i] + "'", printed[i].equals(told[i]));
            }
        } finally {
            Files.deleteIfExists(directory.resolve("Example.class"));
            Files.deleteIfExists(file);
            Files.deleteIfExists(directory);
        }
    }

    private static String output(String... command) throws IOException, InterruptedException {
        Process process = new ProcessBuilder(command).redirectError(ProcessBuilder.Redirect.INHERIT).start();
        String output = new String(process.getInputStream().readAllBytes(), StandardCharsets.UTF_8);
        Check.due("README.md, exit code of " + command[0], process.waitFor(), 0);
        return output;
    }

    /** What stands in a fence that begins so, without the fence's first line. */
    private static String block(String readme, String beginning, String fence) {
        int from = readme.indexOf(beginning);
        int to = readme.indexOf("\n```", from + fence.length());
        return from < 0 || to < 0 ? "" : readme.substring(from + fence.length(), to + 1);
    }

    /** The one row of a table whose first cell is this; empty, if there is none, or another one. */
    private static String row(String readme, String first) {
        String found = "";
        for (String line : readme.split("\n")) {
            if (line.startsWith("| " + first + " |")) {
                if (!found.isEmpty()) {
                    return "";
                }
                found = line;
            }
        }
        return found;
    }

    private static List<String> all(Pattern pattern, String text) {
        List<String> all = new ArrayList<>();
        Matcher matcher = pattern.matcher(text);
        while (matcher.find()) {
            all.add(matcher.group());
        }
        all.replaceAll(s -> s.replaceAll("[.;:]$", ""));
        return all;
    }
}
