import java.util.ArrayList;
import java.util.List;

/**
 * What an object tells, and then what it does when it is led on: state that is not told shows in
 * that. It leaves the object changed, and takes fewer than 400 calls of its 512.
 */
final class Probe {

    private Probe() {
    }

    static List<Object> of(Veilbourse x) {
        List<Object> all = new ArrayList<>(Check.snapshot(x));
        leadPairs(x, all);
        leadRuns(x, all);
        leadGates(x, all);
        leadGame(x, all);
        all.add(outcome(() -> x.mint(1, 1)));
        all.add(x.isTrue());
        return all;
    }

    static Object outcome(Check.Call call) {
        try {
            return call.answer();
        } catch (RuntimeException e) {
            return e.getClass();
        }
    }

    /** The first messages and answers show the bit, the blind number and the mask. */
    private static void leadPairs(Veilbourse x, List<Object> all) {
        for (int pair = 0; pair < 2; pair++) {
            int led = pair;
            all.add(outcome(() -> x.hideBit(led, 1, 1, 2)));
            all.add(outcome(() -> x.dareBit(led, 1)));
            for (int i = 0; i < 6; i++) {
                int side = i / 3;
                int what = i % 3;
                all.add(outcome(() -> x.bitTold(led, side, what)));
            }
        }
    }

    /** The answers show the mask. */
    private static void leadRuns(Veilbourse x, List<Object> all) {
        for (int run = 0; run < 4; run++) {
            int led = run;
            all.add(outcome(() -> x.dare(led, 1)));
            all.add(outcome(() -> x.reply(led, 0, 1)));
            all.add(x.told(run, 5));
            for (int place = 0; place < 8; place++) {
                int asked = place;
                all.add(outcome(() -> x.form(led, asked, true)));
            }
        }
    }

    private static void leadGates(Veilbourse x, List<Object> all) {
        x.fill(5, 1, 2, 3, 4, 5, 6, 7, 8);
        x.fill(6, 3, 1, 4, 1, 5, 9, 2, 6);
        for (int values = 5; values < 7; values++) {
            all.add(x.faults(values, 7));
            for (int place = 0; place < 8; place++) {
                all.add(x.get(7, place));
            }
        }
        all.add(x.ungate());
    }

    /** The one number that can be sent behind 0 shows the claim. */
    private static void leadGame(Veilbourse x, List<Object> all) {
        for (int round = 0; round < 3; round++) {
            all.add(outcome(() -> x.honest()));
            boolean isSent = false;
            for (int one = 0; one < 23 && !isSent; one++) {
                int tried = one;
                Object got = outcome(() -> x.send(0, tried));
                all.add(got);
                isSent = got != Check.ARITHMETIC;
            }
            all.add(outcome(() -> x.draw(2)));
        }
        all.add(outcome(() -> x.chances()));
    }
}
