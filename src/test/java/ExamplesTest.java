import java.io.IOException;
import java.nio.file.Files;
import java.nio.file.Path;
import java.util.regex.Matcher;
import java.util.regex.Pattern;

/** The examples of the document's "Description" and that of README.md, read from these files. */
public final class ExamplesTest {
    private static final Pattern ANSWERED = Pattern.compile("[a-z]+\\([-0-9, ]*\\) = -?[0-9]+");
    private static final int IN_THE_DOCUMENT = 4, CALLS_IN_EACH = 16;

    private static final Due DUE = new Due("examples");

    /** Runs the calls that stand in a text with their answers; answers how many there are. */
    private static int run(String text) {
        Matcher found = ANSWERED.matcher(text);
        int calls = 0;
        while (found.find()) {
            DUE.calls(found.group());
            calls++;
        }
        return calls;
    }

    private static void ofDocument(String file) throws IOException {
        String text = Files.readString(Path.of(file)).replaceAll("\\s+", " ");
        int from = text.indexOf("Examples: Each of them begins with a new object");
        int to = text.indexOf("The constructor and the methods follow");
        DUE.begin("examples of the document");
        DUE.holds("they stand there", 0 <= from && from < to);
        if (from < 0 || to < from) return;
        String[] examples = text.substring(from, to).split(" (?=[0-9]+\\. [A-Z])");
        DUE.is("their number", examples.length - 1, IN_THE_DOCUMENT);
        for (int i = 1; i < examples.length; i++) {
            DUE.begin("example " + examples[i].substring(0, examples[i].indexOf(':')));
            DUE.is("calls", run(examples[i]), CALLS_IN_EACH);
        }
    }

    /** A row there such as "x.size(0); // = 3: why" is a call with its answer. */
    private static void ofReadme(String file) throws IOException {
        String text = Files.readString(Path.of(file));
        DUE.begin("example of README.md");
        long rows = text.lines().filter(line -> line.startsWith("x.")).count();
        DUE.holds("it stands there", rows > 0);
        DUE.is("calls with their answers", run(text.replaceAll("(?m)^x\\.(.*?\\)); +// = ", "$1 = ")), rows);
    }

    public static void main(String[] args) throws IOException {
        ofDocument(args[1]);
        ofReadme(args[2]);
        DUE.end();
    }
}
