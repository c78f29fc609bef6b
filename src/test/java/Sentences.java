import java.io.IOException;
import java.nio.file.Files;
import java.nio.file.Path;
import java.util.ArrayList;
import java.util.List;
import java.util.regex.Matcher;
import java.util.regex.Pattern;

/** Whether each parameter and each exception that the document lists was tried at its bounds. */
final class Sentences {

    private static final Path DOCUMENT = Path.of("../shared/DOC.md");
    private static final Pattern HEAD = Pattern.compile("## Promise ([0-9]+): .*");
    private static final Pattern PARAMETER = Pattern.compile("- `[a-zA-Z0-9]+`: .*");
    private static final Pattern THROWN = Pattern.compile("Throws `([a-zA-Z]+)` if .*");
    /** What may be any number, or is a boolean, has no bound: of fill, isMember, form and factors. */
    private static final String FREE = "(5 [1-8]|18 0|43 2|46 3)";

    private Sentences() {
    }

    static void areTried() throws IOException {
        int promise = 0;
        int parameters = 0;
        List<String> thrown = new ArrayList<>();
        for (String line : Files.readAllLines(DOCUMENT)) {
            Matcher head = HEAD.matcher(line);
            Matcher refusal = THROWN.matcher(line);
            if (head.matches()) {
                promise = Integer.parseInt(head.group(1));
                parameters = 0;
                thrown.clear();
            } else if (promise > 0 && PARAMETER.matcher(line).matches()) {
                parameterIsTried(promise + " ", parameters, line);
                parameters++;
            } else if (promise > 0 && refusal.matches()) {
                refusalIsTried(promise, thrown, refusal.group(1));
                thrown.add(refusal.group(1));
            }
        }
        Check.equal("the last promise", promise, 74);
    }

    private static void parameterIsTried(String promise, int i, String line) {
        if (!(promise + i).matches(FREE)) {
            Check.that(promise + line + " has its last values tried",
                    Bounds.wasTried(promise + "allows " + i));
            Check.that(promise + line + " has the values beside its range tried",
                    Bounds.wasTried(promise + "refuses " + i));
        }
    }

    private static void refusalIsTried(int promise, List<String> earlier, String thrown) {
        String alone = promise + " throws " + thrown;
        Check.that(alone + " is tried", Bounds.wasTried(alone));
        for (String first : earlier) {
            String both = promise + " throws " + first + " ahead of " + thrown;
            Check.that(both + " is tried", Bounds.wasTried(both));
        }
    }
}
