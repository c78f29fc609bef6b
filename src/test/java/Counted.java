import java.io.IOException;
import java.nio.file.Files;
import java.nio.file.Path;
import java.util.regex.Matcher;
import java.util.regex.Pattern;

/**
 * Prints the program with a counter in each call of its face: a test that asks one object more than
 * 512 times, where its answers are free, ends with exit code 1 when it is run on that.
 */
public final class Counted {

    private static final Path PROGRAM = Path.of("src/main/java/Veilbourse.java");
    private static final Pattern TOP = Pattern.compile("(?m)^public final class Veilbourse \\{$");
    private static final Pattern CALL =
            Pattern.compile("(?m)^    public (int|long|double|boolean) \\w+\\([^{;]*\\{$");
    private static final String COUNTER = String.join("\n",
            "    private int calls;",
            "    private void count() {",
            "        if (++calls > 512) {",
            "            new IllegalStateException(\"the 513th call\").printStackTrace();",
            "            System.exit(1);",
            "        }",
            "    }");

    private Counted() {
    }

    public static void main(String[] args) throws IOException {
        String program = Files.readString(PROGRAM);
        Matcher calls = CALL.matcher(program);
        if (calls.results().count() != 73) {
            throw new AssertionError("not all calls of the face were found");
        }
        String counting = calls.reset().replaceAll("$0 count();");
        System.out.println(TOP.matcher(counting).replaceFirst("$0\n" + COUNTER));
    }
}
