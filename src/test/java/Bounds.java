import java.util.Set;
import java.util.TreeSet;

/**
 * Asks objects that are made for one question alone, so that none serves more than 512 calls, and
 * keeps in mind which refusals were tried, so that none that the document names is left out.
 */
final class Bounds {

    interface Setting {
        void set(Veilbourse x);
    }

    interface Act {
        Object of(Veilbourse x);
    }

    private static final Set<String> TRIED = new TreeSet<>();

    private Bounds() {
    }

    static Setting in(Scenes.Scene scene) {
        return x -> scene.set(new Hand(x));
    }

    static Setting in(int field, Scenes.Scene scene) {
        return x -> {
            x.field(field);
            scene.set(new Hand(x));
        };
    }

    static Veilbourse made(Setting setting) {
        Veilbourse x = new Veilbourse();
        setting.set(x);
        return x;
    }

    static boolean wasTried(String sentence) {
        return TRIED.contains(sentence);
    }

    static void note(String sentence) {
        TRIED.add(sentence);
    }

    private static String nameOf(int promise, Class<?> due) {
        return promise + " throws " + due.getSimpleName();
    }

    static String nameOf(int promise, Class<?> due, Class<?> later) {
        return nameOf(promise, due) + " ahead of " + later.getSimpleName();
    }

    static String aloneOf(int promise, Class<?> due) {
        return nameOf(promise, due);
    }

    /** The call answers so; then the object tells what is due of it. */
    static void answers(int promise, String what, Object due, Setting setting, Act act) {
        Veilbourse x = made(setting);
        Check.equal(promise + ": " + what, Probe.outcome(() -> act.of(x)), due);
    }

    /** The call is refused with this alone, and all that comes behind it is as without it. */
    static void refused(int promise, Class<?> due, String what, Setting setting, Act act) {
        note(nameOf(promise, due));
        checkRefused(promise, due, what, setting, act);
    }

    /** Two exceptions apply: the one that is documented first is thrown. */
    static void first(int promise, Class<?> due, Class<?> later, String what, Setting setting,
            Act act) {
        note(nameOf(promise, due, later));
        checkRefused(promise, due, what, setting, act);
    }

    private static void checkRefused(int promise, Class<?> due, String what, Setting setting,
            Act act) {
        Veilbourse x = made(setting);
        Check.equal(promise + ": " + what, Probe.outcome(() -> act.of(x)), due);
        Check.that(promise + ": " + what + " changed nothing",
                Probe.of(x).equals(Probe.of(made(setting))));
    }

    /** The numbers of a row, as a text, so that a whole row is one answer. */
    static String row(Veilbourse x, int row) {
        StringBuilder told = new StringBuilder();
        for (int place = 0; place < 8; place++) {
            told.append(place == 0 ? "" : " ").append(x.get(row, place));
        }
        return told.toString();
    }

    static Setting rows(int[]... rows) {
        return x -> put(x, rows);
    }

    /** The rows from 0 on, with noughts behind the numbers that are told. */
    static void put(Veilbourse x, int[]... rows) {
        for (int row = 0; row < rows.length; row++) {
            put(x, row, rows[row]);
        }
    }

    static void put(Veilbourse x, int row, int... numbers) {
        for (int place = 0; place < 8; place++) {
            x.put(row, place, place < numbers.length ? numbers[place] : 0);
        }
    }

    static int[] of(int... numbers) {
        return numbers;
    }
}
