import java.io.IOException;
import java.lang.reflect.Method;
import java.lang.reflect.Modifier;
import java.nio.file.Files;
import java.nio.file.Path;
import java.util.Set;
import java.util.TreeSet;
import java.util.regex.Matcher;
import java.util.regex.Pattern;

/**
 * Prints a test, ReadmeTest, of the calls in README.md: each has to answer as it is printed beside
 * it. What stands there behind a colon is for the reader alone.
 */
public final class Readme {

    private static final Path README = Path.of("README.md");
    private static final Pattern BLOCK = Pattern.compile("(?s)```java\n(.*?)```");
    private static final Pattern CALL =
            Pattern.compile("(?:(\\w+ (\\w+)) = )?(x\\.(\\w+)\\(.*\\));\\s+// ([^:]*)(:.*)?");

    private final Set<String> shown = new TreeSet<>();

    private Readme() {
    }

    public static void main(String[] args) throws IOException {
        new Readme().print();
    }

    private void print() throws IOException {
        int blocks = 0;
        System.out.println("public final class ReadmeTest {");
        Matcher block = BLOCK.matcher(Files.readString(README));
        while (block.find()) {
            System.out.println("private static void block" + blocks + "() {");
            block.group(1).lines().forEach(this::printLine);
            System.out.println("}");
            blocks++;
        }
        System.out.println("public static void main(String[] args) {");
        for (int i = 0; i < blocks; i++) {
            System.out.println("block" + i + "();");
        }
        System.out.println("Check.end(\"ReadmeTest\");\n}\n}");
        if (!shown.equals(face())) {
            throw new AssertionError("README.md shows only " + shown);
        }
    }

    private static Set<String> face() {
        Set<String> face = new TreeSet<>();
        for (Method method : Veilbourse.class.getDeclaredMethods()) {
            if (Modifier.isPublic(method.getModifiers())) {
                face.add(method.getName());
            }
        }
        return face;
    }

    private void printLine(String line) {
        Matcher told = CALL.matcher(line);
        if (!told.matches()) {
            if (line.contains("x.")) {
                throw new AssertionError("no answer is printed beside " + line);
            }
            System.out.println(line);
            return;
        }
        shown.add(told.group(4));
        String asked = told.group(3);
        if (told.group(1) != null) {
            System.out.println(told.group(1) + " = " + asked + ";");
            asked = told.group(2);
        }
        System.out.println("Check.equal(\"README.md: " + told.group(3) + "\", Readme.answer(() -> "
                + asked + "), \"" + told.group(5).trim() + "\");");
    }

    /** An answer as README.md prints it. */
    static String answer(Check.Call call) {
        try {
            return String.valueOf(call.answer());
        } catch (RuntimeException e) {
            return "throws " + e.getClass().getSimpleName();
        }
    }
}
