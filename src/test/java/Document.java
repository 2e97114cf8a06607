import java.io.IOException;
import java.io.UncheckedIOException;
import java.nio.file.Files;
import java.nio.file.Path;
import java.util.ArrayList;
import java.util.List;
import java.util.regex.Matcher;
import java.util.regex.Pattern;

/** What ../shared/DOC.md says, cut into the pieces that tests compare; run from the project's folder. */
final class Document {
    /** The text in which each run of blanks and line ends is one blank. */
    static String flat(String text) {
        return text.replaceAll("\\s+", " ").strip();
    }

    /** One call: its name and its line of the face, and the lines that tell it, the first one with its text. */
    static final class Promise {
        final int number;
        final String name;
        final String signature;
        final List<String> lines = new ArrayList<>();

        Promise(int number, String name, String body) {
            this.number = number;
            this.name = name;
            Matcher head = Pattern.compile("^`([^`]*)`: ?").matcher(body);
            if (!head.find()) {
                throw new IllegalStateException("the promise " + number + " names no call");
            }
            this.signature = head.group(1);
            StringBuilder text = new StringBuilder();
            List<String> arguments = new ArrayList<>();
            List<String> exceptions = new ArrayList<>();
            for (String line : body.substring(head.end()).split("\n+")) {
                if (line.startsWith("- ")) {
                    arguments.add(flat(line));
                } else if (line.startsWith("Throws ")) {
                    exceptions.add("- " + flat(line));
                } else {
                    text.append(' ').append(line);
                }
            }
            lines.add(flat("- `" + call() + "`:" + text));
            lines.addAll(arguments);
            lines.addAll(exceptions);
        }

        /** The call without what it throws. */
        String call() {
            return signature.replaceAll(" throws .*", "");
        }
    }

    private final String text;

    private Document(String text) {
        this.text = text;
    }

    static Document read() {
        return new Document(contentOf("../shared/DOC.md"));
    }

    static String contentOf(String path) {
        try {
            return Files.readString(Path.of(path));
        } catch (IOException unreadable) {
            throw new UncheckedIOException(unreadable);
        }
    }

    /** The first line that is no heading and not empty, of "What it is". */
    String whatItIs() {
        return flat(allOf("(?m)^## What it is\\n\\n(.*)$").get(0));
    }

    /** The lines of the public face, without their semicolons. */
    List<String> face() {
        return allOf("(?m)^ {4}(public .*);$");
    }

    /** For "Ahead of the calls .. the interface says: ..": a heading, and the names of the calls behind it. */
    List<String> headings() {
        return allOf("(?m)^Ahead of the calls .* the interface says: (.*)\\.$");
    }

    List<String> callsBehind(String heading) {
        String sentence = allOf("(?m)^Ahead of the calls (.*) the interface says: " + Pattern.quote(heading) + "\\.$").get(0);
        return allOf("`(\\w+)`", sentence);
    }

    List<Promise> promises() {
        List<Promise> promises = new ArrayList<>();
        Matcher found = Pattern.compile("(?ms)^## Promise (\\d+): (.*?)\\n\\n(.*?)(?=^## |\\z)").matcher(text);
        while (found.find()) {
            promises.add(new Promise(Integer.parseInt(found.group(1)), found.group(2), found.group(3).strip()));
        }
        return promises;
    }

    boolean says(String quoted) {
        return flat(text).contains(flat(quoted));
    }

    private List<String> allOf(String pattern) {
        return allOf(pattern, text);
    }

    /** What the group of a pattern holds, each time that it is found. */
    static List<String> allOf(String pattern, String text) {
        List<String> all = new ArrayList<>();
        Matcher found = Pattern.compile(pattern).matcher(text);
        while (found.find()) {
            all.add(found.group(1));
        }
        return all;
    }
}
