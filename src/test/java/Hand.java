import java.lang.reflect.InvocationTargetException;
import java.lang.reflect.Method;
import java.util.HashMap;
import java.util.Map;

/** Calls the program or the model by the names of the face, so that both can be led alike. */
final class Hand {

    private static final Map<String, Method> PROGRAM = byName(Veilbourse.class);
    private static final Map<String, Method> MODEL = byName(Model.class);

    private final Object object;
    private final Map<String, Method> methods;
    private int calls = 0;

    Hand(Veilbourse x) {
        object = x;
        methods = PROGRAM;
    }

    Hand(Model model) {
        object = model;
        methods = MODEL;
    }

    private static Map<String, Method> byName(Class<?> kind) {
        Map<String, Method> all = new HashMap<>();
        for (Method method : kind.getMethods()) {
            if (method.getDeclaringClass() == kind) {
                all.put(method.getName(), method);
            }
        }
        return all;
    }

    static int parametersOf(String name) {
        return PROGRAM.get(name).getParameterCount();
    }

    int calls() {
        return calls;
    }

    /** The answer, or the class of what was thrown. */
    Object ask(String name, Object... arguments) {
        calls++;
        try {
            return methods.get(name).invoke(object, arguments);
        } catch (InvocationTargetException e) {
            if (e.getCause() instanceof Error) {
                throw (Error) e.getCause();
            }
            return e.getCause().getClass();
        } catch (IllegalAccessException e) {
            throw new AssertionError(e);
        }
    }

    /** For calls that must answer with a number. */
    int call(String name, Object... arguments) {
        Object got = ask(name, arguments);
        if (!(got instanceof Integer)) {
            throw new AssertionError("the scene is wrong: " + name + " gave " + got);
        }
        return (Integer) got;
    }
}
