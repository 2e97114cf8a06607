import java.util.ArrayList;
import java.util.List;
import java.util.regex.Matcher;
import java.util.regex.Pattern;

/** The document's first line, its public face and its headings of the interface against the lines of the program. */
public final class DocumentTest {
    private static final Checks CHECKS = new Checks();
    private static final Document DOCUMENT = Document.read();
    private static final String PROGRAM = Document.contentOf("src/main/java/SkyPlan.java");

    public static void main(String[] args) {
        whatItIs();
        face();
        promisesOfTheFace();
        headingsOfTheInterface();
        CHECKS.end();
    }

    /** "A planner for the nights of a telescope." */
    private static void whatItIs() {
        CHECKS.dueText("what it is", DOCUMENT.whatItIs(), "A planner for the nights of a telescope.");
        String head = "/** " + DOCUMENT.whatItIs() + " */\npublic final class SkyPlan {\n";
        CHECKS.judge(PROGRAM.contains(head), "the class begins otherwise than by what it is");
    }

    /** What stands in the program's own lines ahead of the block of a public member, its parameters' names with it. */
    private static List<String> publicMembers() {
        List<String> members = new ArrayList<>();
        for (String head : Document.allOf("(?m)^ {4}(public [^{;=]*)[{;=]", PROGRAM)) {
            members.add(Document.flat(head));
        }
        return members;
    }

    private static void face() {
        CHECKS.dueText("how many lines the face has", DOCUMENT.face().size(), 25);
        CHECKS.dueText("the face", publicMembers(), DOCUMENT.face());
    }

    /** The promises are numbered in the order of the face, and say the same of their calls. */
    private static void promisesOfTheFace() {
        List<Document.Promise> promises = DOCUMENT.promises();
        CHECKS.dueText("how many promises there are", promises.size(), 25);
        for (int index = 0; index < promises.size(); index++) {
            Document.Promise promise = promises.get(index);
            CHECKS.dueText("the number of " + promise.name, promise.number, index + 1);
            CHECKS.dueText("the promise " + promise.number, "public " + promise.signature, DOCUMENT.face().get(index));
        }
    }

    /** "Ahead of the calls .. the interface says: ---- .." */
    private static void headingsOfTheInterface() {
        CHECKS.dueText("how many headings there are", DOCUMENT.headings().size(), 3);
        for (String heading : DOCUMENT.headings()) {
            CHECKS.dueText("what stands behind " + heading, namesBehind(heading), DOCUMENT.callsBehind(heading));
        }
    }

    /** The public methods from the comment with this heading to the next such comment. */
    private static List<String> namesBehind(String heading) {
        String comment = Pattern.quote("    // " + heading + "\n");
        Matcher part = Pattern.compile("(?s)" + comment + "(.*?)(?=\\n    // ---- |\\z)").matcher(PROGRAM);
        return part.find() ? Document.allOf("(?m)^ {4}public \\w+ (\\w+)\\(", part.group(1)) : new ArrayList<>();
    }
}
