import java.util.ArrayList;
import java.util.List;

/** What the tests share: they count what holds, and print what does not. */
final class Check {

    interface Call {
        Object answer();
    }

    static final Class<? extends RuntimeException> INDEX = IndexOutOfBoundsException.class;
    static final Class<? extends RuntimeException> ARGUMENT = IllegalArgumentException.class;
    static final Class<? extends RuntimeException> STATE = IllegalStateException.class;
    static final Class<? extends RuntimeException> ARITHMETIC = ArithmeticException.class;

    private static int passed = 0;
    private static int failed = 0;

    private Check() {
    }

    static void that(String what, boolean holds) {
        if (holds) {
            passed++;
        } else {
            failed++;
            System.out.println("does not hold: " + what);
        }
    }

    static void equal(String what, Object got, Object due) {
        that(what + " answered " + got + ", due is " + due, due.equals(got));
    }

    /**
     * The very class that is due must come, and the checksum must stay: more is not asked here, as
     * an object serves 512 calls. BoundaryTest compares all that an object tells.
     */
    static void thrown(String what, Class<? extends RuntimeException> due, Veilbourse x, Call call) {
        long before = x.checksum();
        String got = "an answer";
        try {
            got = "the answer " + call.answer();
        } catch (RuntimeException e) {
            got = e.getClass().getName();
        }
        that(what + " gave " + got + ", due is " + due.getName(), got.equals(due.getName()));
        that(what + " changed nothing", before == x.checksum());
    }

    /** All that the face tells of an object. */
    static List<Long> snapshot(Veilbourse x) {
        List<Long> all = new ArrayList<>();
        all.add((long) x.modulus());
        for (int row = 0; row < 8; row++) {
            for (int place = 0; place < 8; place++) {
                all.add((long) x.get(row, place));
            }
        }
        for (int run = 0; run < 4; run++) {
            snapshotOfRun(x, run, all);
        }
        for (int pair = 0; pair < 2; pair++) {
            snapshotOfPair(x, pair, all);
        }
        for (int row = 0; row < 8; row++) {
            all.add((long) x.fails(row));
            all.add((long) x.spots(row));
        }
        all.add(orNone(() -> x.chances()));
        all.add(orNone(() -> x.honest()));
        all.add(orNone(() -> x.isWon() ? 1 : 0));
        for (int note = 0; note < 16; note++) {
            int asked = note;
            all.add(orNone(() -> x.note(asked)));
        }
        all.add((long) x.standing());
        all.add(x.checksum());
        return all;
    }

    private static void snapshotOfRun(Veilbourse x, int run, List<Long> all) {
        for (int what = 0; what < 7; what++) {
            all.add((long) x.told(run, what));
        }
        for (int place = 0; place < 8; place++) {
            int asked = place;
            all.add(orNone(() -> x.form(run, asked, false)));
            all.add(orNone(() -> x.form(run, asked, true)));
        }
        all.add(x.isAccepted(run) ? 1L : 0L);
    }

    private static void snapshotOfPair(Veilbourse x, int pair, List<Long> all) {
        for (int side = 0; side < 2; side++) {
            for (int what = 0; what < 3; what++) {
                int askedSide = side;
                int asked = what;
                all.add(orNone(() -> x.bitTold(pair, askedSide, asked)));
            }
        }
        all.add(x.isBitAccepted(pair) ? 1L : 0L);
    }

    private static long orNone(Call call) {
        try {
            return ((Number) call.answer()).longValue();
        } catch (IllegalStateException | IndexOutOfBoundsException e) {
            return Long.MIN_VALUE;
        }
    }

    static void end(String name) {
        System.out.println(name + ": " + passed + " held, " + failed + " did not");
        if (failed != 0) {
            System.exit(1);
        }
    }
}
