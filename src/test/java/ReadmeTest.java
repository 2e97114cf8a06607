import java.io.IOException;
import java.nio.charset.StandardCharsets;
import java.nio.file.Files;
import java.nio.file.Path;
import java.util.ArrayList;
import java.util.List;
import java.util.TreeSet;
import java.util.stream.Stream;

/** README.md: its calls and quotes in the document's words, its example as it is written, its tests. */
public final class ReadmeTest {
    private static final Checks CHECKS = new Checks();
    private static final Document DOCUMENT = Document.read();
    private static final String README = Document.contentOf("README.md");

    public static void main(String[] args) throws IOException, InterruptedException {
        CHECKS.judge(README.contains("\n" + DOCUMENT.whatItIs() + "\n"), "README.md doesn't say what it is");
        calls();
        quotes();
        example();
        tests();
        CHECKS.end();
    }

    /** The lists of README.md, a row each; a row goes on in the lines below it that are further in. */
    private static List<String> rows() {
        List<String> rows = new ArrayList<>();
        boolean isInRow = false;
        for (String line : README.split("\n")) {
            String text = line.strip();
            if (text.startsWith("- ")) {
                rows.add(text);
                isInRow = true;
            } else if (isInRow && line.startsWith("  ") && !text.isEmpty()) {
                rows.set(rows.size() - 1, rows.get(rows.size() - 1) + " " + text);
            } else {
                isInRow = false;
            }
        }
        return rows;
    }

    /** Each call with its arguments, its answer and its exceptions, and nothing else. */
    private static void calls() {
        List<String> due = new ArrayList<>();
        for (Document.Promise promise : DOCUMENT.promises()) {
            due.addAll(promise.lines);
        }
        List<String> got = rows();
        for (int index = 0; index < Math.max(got.size(), due.size()); index++) {
            String row = index < got.size() ? got.get(index) : "none";
            CHECKS.dueText("the row " + index + " of the calls", row, index < due.size() ? due.get(index) : "none");
        }
    }

    private static void quotes() {
        List<String> quotes = new ArrayList<>();
        boolean isInQuote = false;
        for (String line : README.split("\n")) {
            if (line.startsWith("> ") && isInQuote) {
                quotes.set(quotes.size() - 1, quotes.get(quotes.size() - 1) + " " + line.substring(2));
            } else if (line.startsWith("> ")) {
                quotes.add(line.substring(2));
            }
            isInQuote = line.startsWith("> ");
            // a line that begins so would be shown as one of a list
            CHECKS.judge(!line.matches("> ([-+*]|\\d+[.)]) .*"), "a quote has the line " + line);
        }
        CHECKS.judge(!quotes.isEmpty(), "README.md quotes nothing");
        for (String quote : quotes) {
            CHECKS.judge(DOCUMENT.says(quote), "the document doesn't say: " + quote);
        }
    }

    private static String block(String kind) {
        return Document.allOf("(?ms)^```" + kind + "\\n(.*?)^```$", README).get(0);
    }

    /** The commands of README.md, as they are written, print what it says that they print. */
    private static void example() throws IOException, InterruptedException {
        CHECKS.dueText("the example", block("java"), Document.contentOf("src/example/java/Example.java"));
        Process shell = new ProcessBuilder("sh", "-ec", block("sh")).redirectErrorStream(true).start();
        shell.getOutputStream().close();
        String printed = new String(shell.getInputStream().readAllBytes(), StandardCharsets.UTF_8);
        CHECKS.dueText("the exit code of the example", shell.waitFor(), 0);
        CHECKS.dueText("what the example prints", printed, block("text"));
    }

    /** The table names each test, and each file beside them is named too. */
    private static void tests() throws IOException {
        TreeSet<String> files = new TreeSet<>();
        try (Stream<Path> listed = Files.list(Path.of("src/test/java"))) {
            listed.forEach(file -> files.add(file.getFileName().toString().replace(".java", "")));
        }
        String part = README.substring(README.indexOf("## The tests"));
        CHECKS.judge(part.contains("\n.ci/run\n"), "README.md doesn't tell how to run the tests");
        for (String file : files) {
            CHECKS.judge(part.contains("`" + file + "`"), "README.md doesn't name " + file);
        }
        for (String named : Document.allOf("`(\\w+Test)`", part)) {
            CHECKS.judge(files.contains(named), "README.md names " + named + ", which there isn't");
        }
    }
}
