import java.io.IOException;
import java.lang.management.ManagementFactory;
import java.lang.reflect.Constructor;
import java.lang.reflect.Executable;
import java.lang.reflect.Field;
import java.lang.reflect.Method;
import java.lang.reflect.Modifier;
import java.lang.reflect.Parameter;
import java.nio.file.Files;
import java.nio.file.Path;
import java.util.ArrayList;
import java.util.List;
import java.util.Set;
import java.util.TreeSet;

/** Whether the face is the document's (rule 1 of LANGUAGE.md), and calls make no objects. */
public final class FaceTest {

    private static final Path DOCUMENT = Path.of("../shared/DOC.md");

    private FaceTest() {
    }

    public static void main(String[] args) throws IOException {
        faceIsTheDocuments();
        nothingElseIsSeen();
        namesAreApart();
        callsMakeNoObjects();
        Check.end("FaceTest");
    }

    private static void faceIsTheDocuments() throws IOException {
        String document = Files.readString(DOCUMENT);
        String block = document.substring(document.indexOf("```java") + 7);
        block = block.substring(0, block.indexOf("```"));
        Set<String> due = new TreeSet<>();
        for (String line : block.split("\n")) {
            if (line.startsWith("    public ")) {
                due.add(line.trim());
            }
        }
        Set<String> got = new TreeSet<>();
        for (Constructor<?> made : Veilbourse.class.getDeclaredConstructors()) {
            got.add("public " + signature("Veilbourse", made));
        }
        for (Method method : Veilbourse.class.getDeclaredMethods()) {
            if (Modifier.isPublic(method.getModifiers())) {
                String name = method.getReturnType().getSimpleName() + " " + method.getName();
                got.add("public " + signature(name, method));
            }
        }
        Check.equal("the face", got, due);
        Check.equal("the face has", got.size(), 74);
    }

    private static String signature(String name, Executable told) {
        List<String> parameters = new ArrayList<>();
        for (Parameter parameter : told.getParameters()) {
            parameters.add(parameter.getType().getSimpleName() + " " + parameter.getName());
        }
        List<String> thrown = new ArrayList<>();
        for (Class<?> kind : told.getExceptionTypes()) {
            thrown.add(kind.getSimpleName());
        }
        return name + "(" + String.join(", ", parameters) + ")"
                + (thrown.isEmpty() ? "" : " throws " + String.join(", ", thrown)) + ";";
    }

    private static void nothingElseIsSeen() {
        int shown = Modifier.PUBLIC | Modifier.FINAL;
        Check.equal("the class is public and final", Veilbourse.class.getModifiers(), shown);
        for (Field field : Veilbourse.class.getDeclaredFields()) {
            Check.that(field + " is private", Modifier.isPrivate(field.getModifiers()));
            boolean isFinal = Modifier.isFinal(field.getModifiers());
            Check.that(field + " is final", !Modifier.isStatic(field.getModifiers()) || isFinal);
        }
        for (Method method : Veilbourse.class.getDeclaredMethods()) {
            int kept = Modifier.PUBLIC | Modifier.PRIVATE;
            Check.that(method + " is public or private", (method.getModifiers() & kept) != 0);
        }
        Class<?>[] inside = Veilbourse.class.getDeclaredClasses();
        for (Class<?> kind : inside) {
            int modifiers = kind.getModifiers();
            Check.that(kind + " is static", Modifier.isStatic(modifiers));
            Check.that(kind + " is not shown", !Modifier.isPublic(modifiers)
                    && !Modifier.isProtected(modifiers));
        }
    }

    private static void namesAreApart() {
        Set<String> face = new TreeSet<>();
        List<Class<?>> kinds = new ArrayList<>(List.of(Veilbourse.class.getDeclaredClasses()));
        kinds.add(Veilbourse.class);
        for (Method method : Veilbourse.class.getDeclaredMethods()) {
            if (Modifier.isPublic(method.getModifiers())) {
                face.add(method.getName());
            }
        }
        for (Class<?> kind : kinds) {
            for (Method method : kind.getDeclaredMethods()) {
                boolean isFace = Modifier.isPublic(method.getModifiers());
                Check.that(method + " bears no name of the face",
                        isFace || !face.contains(method.getName()));
            }
        }
    }

    private static void callsMakeNoObjects() {
        com.sun.management.ThreadMXBean counter =
                (com.sun.management.ThreadMXBean) ManagementFactory.getThreadMXBean();
        Veilbourse x = new Veilbourse();
        long thread = Thread.currentThread().getId();
        dearCalls(x);
        long before = counter.getThreadAllocatedBytes(thread);
        // Each round is 28 calls, and an object serves 512.
        for (int i = 0; i < 17; i++) {
            dearCalls(x);
        }
        long made = counter.getThreadAllocatedBytes(thread) - before;
        Check.that("calls that answer make no objects, but they made " + made, made < 4096);
    }

    private static void dearCalls(Veilbourse x) {
        x.field(7);
        x.powers(5, 0);
        x.times(1, 0, 2);
        x.divide(0, 0, 2, 3);
        x.fill(4, 0, 1, 2, 3, 4, 5, 6, 7);
        x.through(4, 0, 8, 5);
        x.meets(0, 4);
        x.twin(250, 250);
        x.parts(0, 0, 1, 2, 3, 0, 1, 2, 3);
        x.state(0, x.commit(0, 1), 4, x.inner(0, 4));
        x.open(0, 5, 2);
        x.ask(0);
        x.reply(0, 0, 1);
        x.batch(0, 0, 3, 1);
        x.chooseBit(0, 1, 1);
        x.hideBit(0, 1, 2, 3);
        x.dareBit(0, 4);
        x.bitLike(0, 1);
        x.gate(4, 0, 1, 0);
        x.faults(0, 6);
        x.play(0, 0);
        x.mint(1, 2);
        x.split(0, 1, 1);
        x.isTrue();
        x.checksum();
        x.risk(30);
    }
}
