import java.io.IOException;
import java.nio.file.Files;
import java.nio.file.Path;
import java.util.List;
import java.util.regex.Matcher;
import java.util.regex.Pattern;

/** The rules of LANGUAGE.md that can be read from the lines of the program; run from the project's folder. */
public final class SourceTest {
    private static final Path PROGRAM = Path.of("src/main/java/SkyPlan.java");
    private static final int MOST_LINES = 60;
    private static final String[] FORBIDDEN = {
        "->", "::", "Exact\\(", "\\b(try|catch|finally|synchronized|assert|volatile|transient|native)\\b",
        "\\b(System|Object|Random|Thread|Runtime)\\b(?!\\.arraycopy)", "\" *\\+|\\+ *\"", "^package ",
        "\\b(equals|hashCode|toString|instanceof)\\b", "\\b(float|Double|Float)\\b",
    };
    private static final List<String> IMPORTS = List.of(
            "import java.util.ArrayList;", "import java.util.Arrays;", "import java.util.List;",
            "import java.util.Iterator;", "import java.util.NoSuchElementException;");
    private static final Pattern THROW = Pattern.compile("throw (?!new Illegal(Argument|State)Exception\\(\"[^\"]*\"\\);"
            + "|new IndexOutOfBoundsException\\(\"[^\"]*\"\\);)");
    private static final Checks CHECKS = new Checks();

    public static void main(String[] args) throws IOException {
        List<String> lines = Files.readAllLines(PROGRAM);
        words(lines);
        lengthsOfMethods(lines);
        CHECKS.end();
    }

    private static boolean isComment(String line) {
        String text = line.strip();
        return text.startsWith("//") || text.startsWith("/*") || text.startsWith("*");
    }

    private static void words(List<String> lines) {
        for (int index = 0; index < lines.size(); index++) {
            String line = lines.get(index);
            if (isComment(line)) {
                continue;
            }
            for (String forbidden : FORBIDDEN) {
                Matcher found = Pattern.compile(forbidden).matcher(line);
                CHECKS.judge(!found.find(), "line " + (index + 1) + " has " + forbidden + ": " + line);
            }
            CHECKS.judge(!line.startsWith("import ") || IMPORTS.contains(line), "line " + (index + 1) + ": " + line);
            CHECKS.judge(!THROW.matcher(line).find(), "line " + (index + 1) + ": " + line);
        }
    }

    /** A method begins where a line opens a block behind a parenthesis, and ends at the same depth. */
    private static void lengthsOfMethods(List<String> lines) {
        Pattern head = Pattern.compile("^( {4}| {8})\\S.*\\) ?.*\\{$");
        for (int index = 0; index < lines.size(); index++) {
            Matcher found = head.matcher(lines.get(index));
            if (found.find()) {
                int end = lines.subList(index, lines.size()).indexOf(found.group(1) + "}");
                CHECKS.judge(end > 0 && end <= MOST_LINES, "the method in line " + (index + 1) + " is too long");
            }
        }
    }
}
