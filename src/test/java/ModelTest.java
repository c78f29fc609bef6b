import java.lang.reflect.InvocationTargetException;
import java.lang.reflect.Method;
import java.lang.reflect.Modifier;
import java.lang.reflect.Parameter;
import java.util.ArrayList;
import java.util.Comparator;
import java.util.HashMap;
import java.util.List;
import java.util.Map;
import java.util.Random;

/** Long runs of calls, the same ones on the program and on the model, with answers compared. */
public final class ModelTest {

    private static final int RUNS = 2400;
    /** What one object is asked at most, checksum() and isTrue() among it. */
    private static final int CALLS = 512;
    private static final int[] PRIMES = {3, 5, 7, 11, 13, 17, 19, 23};

    private final Random random;
    private final Veilbourse x = new Veilbourse();
    private final Model model = new Model();
    private final List<String> calls = new ArrayList<>();
    /** After how many calls the checksums are compared: the less often, the longer is the run. */
    private final int pace;
    private int p = 7;
    private int asked = 0;
    private boolean differs = false;

    private static final List<Method> METHODS = new ArrayList<>();
    private static final Map<String, Method> TWINS = new HashMap<>();
    private static final Map<String, int[]> SEEN = new HashMap<>();

    private ModelTest(long seed) {
        random = new Random(seed);
        pace = 1 + (int) (seed / 8 % 4);
    }

    public static void main(String[] args) throws ReflectiveOperationException {
        for (Method method : Veilbourse.class.getDeclaredMethods()) {
            if (Modifier.isPublic(method.getModifiers())) {
                METHODS.add(method);
                TWINS.put(method.getName(),
                        Model.class.getMethod(method.getName(), method.getParameterTypes()));
                SEEN.put(method.getName(), new int[2]);
            }
        }
        METHODS.sort(Comparator.comparing(Method::getName));
        Check.equal("the methods of the face", METHODS.size(), 73);
        for (int i = 0; i < RUNS; i++) {
            new ModelTest(i).run(i);
        }
        for (String name : SEEN.keySet()) {
            Check.that(name + " was called with an answer", SEEN.get(name)[0] > 100);
        }
        Check.end("ModelTest");
    }

    private void run(int seed) throws ReflectiveOperationException {
        p = PRIMES[seed % 8];
        call("field", seed % 8);
        while (!isOver()) {
            step();
        }
        Check.that("run " + seed + " agrees", !differs);
    }

    /** One call takes up to three of the object's: the checksum and isTrue() may come with it. */
    private boolean isOver() {
        return differs || asked > CALLS - 3;
    }

    private void step() throws ReflectiveOperationException {
        switch (random.nextInt(24)) {
            case 0:
                rightRun();
                break;
            case 1:
                fork();
                break;
            case 2:
                payment();
                break;
            case 3:
                pair();
                break;
            case 4:
                game();
                break;
            case 5:
                joinedRuns();
                break;
            case 6:
                similarRows();
                break;
            case 7:
                toldRun();
                break;
            case 8:
                notes();
                break;
            default:
                anyCall();
        }
    }

    private void anyCall() throws ReflectiveOperationException {
        Method method = METHODS.get(random.nextInt(METHODS.size()));
        String name = method.getName();
        boolean isRare = name.equals("field") || name.equals("bitLike") || name.equals("challenges");
        if (isRare && random.nextInt(name.equals("field") ? 40 : 4) != 0) {
            return;
        }
        Parameter[] parameters = method.getParameters();
        Object[] arguments = new Object[parameters.length];
        for (int i = 0; i < parameters.length; i++) {
            arguments[i] = parameters[i].getType() == boolean.class
                    ? (Object) random.nextBoolean() : argument(name, parameters[i].getName());
        }
        call(name, arguments);
    }

    /** Mostly what is asked for, seldom what is beside it. */
    private int within(int end) {
        int n = random.nextInt(40);
        return n == 0 ? -1 : n == 1 ? end : random.nextInt(Math.max(1, end));
    }

    private int member() {
        return random.nextInt(12) == 0 ? random.nextInt(200) - 5 : anyMember();
    }

    private int anyMember() {
        int y = 1;
        for (int i = random.nextInt(p); i > 0; i--) {
            y = y * model.base(0) % model.modulus();
        }
        return y;
    }

    private int argument(String method, String name) {
        switch (method) {
            case "field":
                return within(8);
            case "fill":
                return name.equals("row") ? within(8) : random.nextInt(5) == 0
                        ? random.nextInt() : random.nextInt(3) == 0 ? random.nextInt(60) - 30 : 0;
            case "base":
                return within(9);
            case "seal":
            case "twin":
                return within(251);
            case "gate":
                return gateArgument(name);
            case "told":
                return name.equals("run") ? within(4) : within(7);
            case "bitTold":
                return name.equals("what") ? within(3) : within(2);
            case "hideBit":
                return name.equals("pair") ? within(2) : within(p);
            case "risk":
                return within(32);
            case "split":
            case "mint":
            case "merge":
            case "note":
            case "pay":
                return ledgerArgument(name);
            default:
                return argumentNamed(method, name);
        }
    }

    private int gateArgument(String name) {
        return name.equals("kind") ? within(5) : within(random.nextInt(3) == 0 ? p : 8);
    }

    private int ledgerArgument(String name) {
        return name.equals("note") || name.equals("second") ? within(8)
                : name.equals("run") ? within(4) : within(p);
    }

    private int argumentNamed(String method, String name) {
        switch (name) {
            case "row":
            case "other":
            case "to":
            case "by":
            case "quotient":
            case "rest":
            case "points":
            case "values":
            case "form":
            case "mask":
            case "secret":
            case "secret2":
            case "answer":
            case "place":
                return within(8);
            case "many":
                return within(9);
            case "run":
            case "second":
            case "into":
                return within(4);
            case "pair":
            case "bit":
                return within(2);
            case "step":
                return within(3);
            case "y":
                return method.equals("extend") ? within(p) : member();
            case "a":
                return method.equals("say") ? member() : within(251);
            case "b":
            case "a2":
            case "b2":
            case "c2":
                return within(251);
            case "c":
                return method.equals("climb") || method.equals("parts") ? within(251) : within(p);
            default:
                return within(p);
        }
    }

    // What would not come by chance.

    private int row() {
        return random.nextInt(8);
    }

    private int number() {
        return random.nextInt(p);
    }

    private void freshRow(int row) throws ReflectiveOperationException {
        Object[] arguments = new Object[9];
        arguments[0] = row;
        for (int i = 1; i < 9; i++) {
            arguments[i] = random.nextInt(3) == 0 ? 0 : number();
        }
        call("fill", arguments);
    }

    private void rightRun() throws ReflectiveOperationException {
        int run = random.nextInt(4);
        int form = row();
        int secret = row();
        int blind = number();
        freshRow(secret);
        freshRow(row());
        call("state", run, model.commit(secret, blind), form, model.inner(form, secret));
        call("open", run, row(), number());
        if (random.nextBoolean()) {
            call("ask", run);
        } else {
            call("dare", run, number());
        }
        call("reply", run, secret, blind);
        call("isAccepted", run);
        call("maskFor", run, secret, blind, row());
        int place = row();
        int other = (secret + 1) % 8;
        int brokenBlind = model.breaks(secret, blind, place, other);
        call("breaks", secret, blind, place, other);
        call("fits", run, other, brokenBlind);
        call("maskFor", run, other, brokenBlind, row());
    }

    /** With a form of noughts a told run is accepted now and then. */
    private void toldRun() throws ReflectiveOperationException {
        int run = random.nextInt(4);
        int answer = row();
        int form = row();
        int t = number();
        if (random.nextBoolean()) {
            call("fill", form, 0, 0, 0, 0, 0, 0, 0, 0);
        }
        int y = anyMember();
        call("state", run, y, form, random.nextInt(2));
        call("say", run, random.nextBoolean() ? model.commit(answer, t) : anyMember(),
                random.nextInt(2));
        call("challenges", run);
        call("dare", run, random.nextInt(2));
        call("tell", run, answer, t);
        call("isAccepted", run);
        call("told", run, 6);
    }

    private void fork() throws ReflectiveOperationException {
        int run = random.nextInt(4);
        int second = (run + 1) % 4;
        int secret = row();
        int form = row();
        int mask = row();
        int blind = number();
        freshRow(secret);
        int y = model.commit(secret, blind);
        int v = model.inner(form, secret);
        int maskBlind = number();
        for (int asked : new int[] {run, second}) {
            call("state", asked, y, form, v);
            call("open", asked, mask, maskBlind);
            call("dare", asked, number());
            call("reply", asked, secret, random.nextInt(9) == 0 ? number() : blind);
        }
        call("extract", run, second, row());
    }

    private void payment() throws ReflectiveOperationException {
        int secret = row();
        int form = (secret + 1) % 8;
        int amount = number();
        int blind = number();
        call("fill", secret, amount, 0, 0, 0, 0, 0, 0, 0);
        call("fill", form, 1, 0, 0, random.nextInt(9) == 0 ? 1 : 0, 0, 0, 0, 0);
        call("mint", amount, blind);
        int note = lastNote(model.commit(secret, blind));
        if (note < 0) {
            return;
        }
        int run = random.nextInt(4);
        call("state", run, model.note(note), form, amount);
        call("open", run, row(), number());
        if (random.nextInt(4) == 0) {
            call("dare", run, number());
        }
        call("ask", run);
        call("reply", run, secret, random.nextInt(6) == 0 ? number() : blind);
        call("pay", random.nextInt(6) == 0 ? random.nextInt(16) : note, run);
    }

    /** The last note with this commitment, -1 if there is none. */
    private int lastNote(int y) {
        int found = -1;
        for (int i = 0; i < model.notes(); i++) {
            found = model.note(i) == y ? i : found;
        }
        return found;
    }

    private void notes() throws ReflectiveOperationException {
        if (model.notes() > 13) {
            call("field", random.nextInt(8));
        }
        call("mint", number(), number());
        call("split", model.notes() - 1, number(), number());
        call("merge", within(model.notes()), model.notes() - 1);
        call("standing");
    }

    private void pair() throws ReflectiveOperationException {
        int pair = random.nextInt(2);
        call("chooseBit", pair, random.nextInt(2), number());
        call("hideBit", pair, number(), number(), number());
        call("dareBit", pair, number());
        call("isBitAccepted", pair);
        call("bitLike", pair, random.nextInt(2));
        call("bitTold", pair, random.nextInt(2), random.nextInt(3));
    }

    private void game() throws ReflectiveOperationException {
        int row = row();
        freshRow(row);
        int claim = random.nextBoolean() ? model.total(row) : number();
        call("play", row, claim);
        for (int round = 0; round < 3 && !isOver(); round++) {
            int zero = number();
            int one = Math.floorMod(claim - zero, p);
            if (random.nextInt(3) != 0 && model.total(row) == claim) {
                int right = model.honest();
                zero = right / 32;
                one = right % 32;
            }
            call("honest");
            call("send", zero, one);
            call("chances");
            int c = number();
            call("draw", c);
            claim = Math.floorMod(zero + c * (one - zero), p);
            call("chances");
            call("isWon");
        }
    }

    private void joinedRuns() throws ReflectiveOperationException {
        int run = random.nextInt(4);
        int second = random.nextInt(4);
        int form = row();
        boolean isBatch = random.nextBoolean();
        int y = anyMember();
        call("state", run, y, form, number());
        call("state", second, isBatch ? y : anyMember(), isBatch ? row() : form, number());
        call("factors", run, second, row(), isBatch, row());
        call(isBatch ? "batch" : "fold", run, second, number(), random.nextInt(4));
    }

    private void similarRows() throws ReflectiveOperationException {
        int row = row();
        int other = row();
        freshRow(row);
        call("powers", number(), other);
        call("mix", row, row, p - 1, other);
        for (int i = 0; i < 8; i++) {
            call("put", other, (i + 3) % 8, model.get(row, i));
        }
        call("isMixed", row, other);
        if (random.nextBoolean()) {
            call("put", other, row(), number());
        }
        call("isMixed", row, other);
        call("meets", row, other);
        call("fill", row, 0, 1, 2, 3, 4, 5, 6, 7);
        call("through", row, other, 1 + random.nextInt(Math.min(8, p)), row());
    }

    // One call on both.

    private void call(String name, Object... arguments) throws ReflectiveOperationException {
        if (isOver()) {
            return;
        }
        StringBuilder told = new StringBuilder(name);
        for (Object argument : arguments) {
            told.append(' ').append(argument);
        }
        calls.add(told.toString());
        Method twin = TWINS.get(name);
        Method method = Veilbourse.class.getMethod(name, twin.getParameterTypes());
        long before = model.checksum();
        Object due = answer(twin, model, arguments);
        Object got = answer(method, x, arguments);
        asked++;
        boolean isThrown = due instanceof Class;
        SEEN.get(name)[isThrown ? 1 : 0]++;
        if (name.equals("field") && !isThrown) {
            p = (Integer) due;
        }
        boolean changed = isThrown && before != model.checksum();
        if (changed || !due.equals(got) || !isAlike()) {
            differs = true;
            System.out.println("after " + calls.size() + " calls " + told + " gave " + got
                    + ", due is " + due + "; the last ones: "
                    + calls.subList(Math.max(0, calls.size() - 12), calls.size()));
        }
    }

    /** Asks, now and then, what tells more than the answer of the last call. */
    private boolean isAlike() {
        boolean isAlike = true;
        if (calls.size() % pace == 0) {
            asked++;
            isAlike = x.checksum() == model.checksum();
        }
        if (calls.size() % 8 == 0) {
            asked++;
            isAlike &= x.isTrue();
        }
        return isAlike;
    }

    private static Object answer(Method method, Object object, Object[] arguments)
            throws ReflectiveOperationException {
        try {
            return method.invoke(object, arguments);
        } catch (InvocationTargetException e) {
            if (e.getCause() instanceof Error) {
                throw (Error) e.getCause();
            }
            return e.getCause().getClass();
        }
    }
}
