import java.io.IOException;
import java.lang.management.ManagementFactory;
import java.lang.reflect.Constructor;
import java.lang.reflect.Executable;
import java.lang.reflect.Field;
import java.lang.reflect.Method;
import java.lang.reflect.Modifier;
import java.lang.reflect.Parameter;
import java.nio.file.Files;
import java.nio.file.Path;
import java.util.ArrayList;
import java.util.List;
import java.util.Set;
import java.util.TreeSet;
import java.util.regex.Matcher;
import java.util.regex.Pattern;

/** Whether the face is the document's, and the program keeps to what LANGUAGE.md lets be seen. */
public final class FaceTest {

    private static final Path DOCUMENT = Path.of("../shared/DOC.md");
    private static final Path PROGRAM = Path.of("src/main/java/Veilbourse.java");

    private FaceTest() {
    }

    public static void main(String[] args) throws IOException {
        faceIsTheDocuments();
        nothingElseIsSeen();
        namesAreApart();
        methodsAreSmall();
        sourceKeepsToTheRules();
        callsMakeNoObjects();
        Check.end("FaceTest");
    }

    private static void faceIsTheDocuments() throws IOException {
        String document = Files.readString(DOCUMENT);
        String block = document.substring(document.indexOf("```java") + 7);
        block = block.substring(0, block.indexOf("```"));
        Set<String> due = new TreeSet<>();
        for (String line : block.split("\n")) {
            if (line.startsWith("    public ")) {
                due.add(line.trim());
            }
        }
        Set<String> got = new TreeSet<>();
        for (Constructor<?> made : Veilbourse.class.getDeclaredConstructors()) {
            got.add("public " + signature("Veilbourse", made));
        }
        for (Method method : Veilbourse.class.getDeclaredMethods()) {
            if (Modifier.isPublic(method.getModifiers())) {
                String name = method.getReturnType().getSimpleName() + " " + method.getName();
                got.add("public " + signature(name, method));
            }
        }
        Check.equal("the face", got, due);
        Check.equal("the face has", got.size(), 74);
    }

    private static String signature(String name, Executable told) {
        List<String> parameters = new ArrayList<>();
        for (Parameter parameter : told.getParameters()) {
            parameters.add(parameter.getType().getSimpleName() + " " + parameter.getName());
        }
        List<String> thrown = new ArrayList<>();
        for (Class<?> kind : told.getExceptionTypes()) {
            thrown.add(kind.getSimpleName());
        }
        return name + "(" + String.join(", ", parameters) + ")"
                + (thrown.isEmpty() ? "" : " throws " + String.join(", ", thrown)) + ";";
    }

    private static void nothingElseIsSeen() {
        int shown = Modifier.PUBLIC | Modifier.FINAL;
        Check.equal("the class is public and final", Veilbourse.class.getModifiers(), shown);
        for (Field field : Veilbourse.class.getDeclaredFields()) {
            Check.that(field + " is private", Modifier.isPrivate(field.getModifiers()));
            boolean isFinal = Modifier.isFinal(field.getModifiers());
            Check.that(field + " is final", !Modifier.isStatic(field.getModifiers()) || isFinal);
        }
        for (Method method : Veilbourse.class.getDeclaredMethods()) {
            int kept = Modifier.PUBLIC | Modifier.PRIVATE;
            Check.that(method + " is public or private", (method.getModifiers() & kept) != 0);
        }
        Class<?>[] inside = Veilbourse.class.getDeclaredClasses();
        Check.that("there are few classes inside", inside.length <= 11);
        for (Class<?> kind : inside) {
            int modifiers = kind.getModifiers();
            Check.that(kind + " is static", Modifier.isStatic(modifiers));
            Check.that(kind + " is not shown", !Modifier.isPublic(modifiers)
                    && !Modifier.isProtected(modifiers));
            Check.that(kind + " has few fields", kind.getDeclaredFields().length <= 20);
        }
    }

    private static void namesAreApart() {
        Set<String> face = new TreeSet<>();
        List<Class<?>> kinds = new ArrayList<>(List.of(Veilbourse.class.getDeclaredClasses()));
        kinds.add(Veilbourse.class);
        for (Method method : Veilbourse.class.getDeclaredMethods()) {
            if (Modifier.isPublic(method.getModifiers())) {
                face.add(method.getName());
            }
        }
        for (Class<?> kind : kinds) {
            for (Method method : kind.getDeclaredMethods()) {
                boolean isFace = Modifier.isPublic(method.getModifiers());
                Check.that(method + " bears no name of the face",
                        isFace || !face.contains(method.getName()));
                boolean isWide = method.getName().equals("fill") || method.getName().equals("parts");
                Check.that(method + " takes few parameters",
                        isWide || method.getParameterCount() <= 7);
            }
        }
    }

    private static void methodsAreSmall() throws IOException {
        int start = 0;
        List<String> lines = Files.readAllLines(PROGRAM);
        Pattern head = Pattern.compile("^( {4}| {8})[a-zA-Z].*\\) ?.*\\{$|^ {12}throws .*\\{$");
        for (int i = 0; i < lines.size(); i++) {
            String line = lines.get(i);
            if (head.matcher(line).find() && !line.contains("class ")) {
                start = i;
            }
            if (line.equals("    }") || line.equals("        }")) {
                Check.that("the method that ends in line " + (i + 1) + " is short", i - start <= 60);
            }
        }
    }

    private static void sourceKeepsToTheRules() throws IOException {
        String source = Files.readString(PROGRAM).replaceAll("(?s)/\\*.*?\\*/", "")
                .replaceAll("//[^\n]*", "");
        String code = source.replaceAll("\"[^\"]*\"", "\"\"");
        String[] refused = {"->", "::", "import ", "package ", "assert", "synchronized", "finally",
            "try ", "catch", "System.", "Thread", "protected ", "instanceof", "null", "lambda",
            "double[]", "float", "getClass", "hashCode", "toString", "abstract", "Object"};
        for (String word : refused) {
            Check.that("there is no " + word, !code.contains(word));
        }
        Check.that("all signs are plain", source.chars().allMatch(c -> c < 127));
        Matcher thrown = Pattern.compile("throw ([^;]*);").matcher(source);
        Pattern plain = Pattern.compile("new (IndexOutOfBounds|IllegalArgument|IllegalState"
                + "|Arithmetic)Exception\\(\"[^\"+]*\"\\)");
        int many = 0;
        while (thrown.find()) {
            many++;
            Check.that(thrown.group() + " is plain", plain.matcher(thrown.group(1)).matches());
        }
        Check.that("something is thrown", many > 20);
        Matcher divided = Pattern.compile("[%/] *([^ ;]*)").matcher(code);
        Set<String> divisors = new TreeSet<>();
        while (divided.find()) {
            divisors.add(divided.group(1));
        }
        Check.equal("the divisors that are looked at", divisors,
                new TreeSet<>(Set.of("p", "SEALS", "(p", "d", "q", "all")));
    }

    private static void callsMakeNoObjects() {
        com.sun.management.ThreadMXBean counter =
                (com.sun.management.ThreadMXBean) ManagementFactory.getThreadMXBean();
        Veilbourse x = new Veilbourse();
        long thread = Thread.currentThread().getId();
        dearCalls(x);
        long before = counter.getThreadAllocatedBytes(thread);
        for (int i = 0; i < 40; i++) {
            dearCalls(x);
        }
        long made = counter.getThreadAllocatedBytes(thread) - before;
        Check.that("calls that answer make no objects, but they made " + made, made < 4096);
    }

    private static void dearCalls(Veilbourse x) {
        x.field(7);
        x.powers(5, 0);
        x.times(1, 0, 2);
        x.divide(0, 0, 2, 3);
        x.fill(4, 0, 1, 2, 3, 4, 5, 6, 7);
        x.through(4, 0, 8, 5);
        x.meets(0, 4);
        x.twin(250, 250);
        x.parts(0, 0, 1, 2, 3, 0, 1, 2, 3);
        x.state(0, x.commit(0, 1), 4, x.inner(0, 4));
        x.open(0, 5, 2);
        x.ask(0);
        x.reply(0, 0, 1);
        x.batch(0, 0, 3, 1);
        x.chooseBit(0, 1, 1);
        x.hideBit(0, 1, 2, 3);
        x.dareBit(0, 4);
        x.bitLike(0, 1);
        x.gate(4, 0, 1, 0);
        x.faults(0, 6);
        x.play(0, 0);
        x.mint(1, 2);
        x.split(0, 1, 1);
        x.isTrue();
        x.checksum();
        x.risk(30);
    }
}
