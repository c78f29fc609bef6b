import java.lang.reflect.Array;
import java.lang.reflect.Field;

/**
 * Promise 74: no call makes isTrue() false, so what stands in an object is changed from outside, by
 * the names of its fields; isTrue() has to find it.
 */
public final class TruthTest {

    private TruthTest() {
    }

    public static void main(String[] args) throws ReflectiveOperationException {
        for (int run = 0; run < 4; run++) {
            rightRun(run);
        }
        for (int pair = 0; pair < 2; pair++) {
            for (int side = 0; side < 2; side++) {
                pair(pair, side, "firsts", 1, 16);
                pair(pair, side, "parts", 0, 1);
                pair(pair, side, "answers", 0, 1);
            }
        }
        game();
        ledger("minted");
        ledger("paid");
        Check.end("TruthTest");
    }

    /** Turns one of two values into the other one, and looks whether isTrue() finds it. */
    private static void changed(String what, Veilbourse x, Object object, String field, int one,
            int other) throws ReflectiveOperationException {
        Check.that(what + " is right at first", x.isTrue());
        Field changed = object.getClass().getDeclaredField(field);
        changed.setAccessible(true);
        changed.setInt(object, changed.getInt(object) == one ? other : one);
        Check.that(what + " was changed, and isTrue() finds it", !x.isTrue());
    }

    private static Object inside(Object object, String field) throws ReflectiveOperationException {
        Field found = object.getClass().getDeclaredField(field);
        found.setAccessible(true);
        return found.get(object);
    }

    /** (1): what a right prover makes is accepted. */
    private static void rightRun(int run) throws ReflectiveOperationException {
        String[] fields = {"y", "a", "w", "c", "t"};
        for (String field : fields) {
            Veilbourse x = new Veilbourse();
            x.fill(0, 1, 2, 0, 0, 0, 0, 0, 0);
            x.fill(1, 5, 4, 0, 0, 0, 0, 0, 0);
            x.state(run, x.commit(1, 2), 0, x.inner(0, 1));
            x.open(run, 1, 3);
            x.dare(run, 2);
            x.reply(run, 1, 2);
            boolean isMember = field.equals("y") || field.equals("a");
            changed(field + " of the run " + run, x, Array.get(inside(x, "runs"), run), field, 1,
                    isMember ? 16 : 0);
        }
    }

    /** (1) and (4): a pair is accepted, and could as well be one of the other bit. */
    private static void pair(int pair, int side, String field, int one, int other)
            throws ReflectiveOperationException {
        for (int bit = 0; bit < 2; bit++) {
            Veilbourse x = new Veilbourse();
            x.chooseBit(pair, bit, 3);
            x.hideBit(pair, 2, 4, 5);
            x.dareBit(pair, 1);
            Check.that("the pair is right at first", x.isTrue());
            int[] numbers = (int[]) inside(Array.get(inside(x, "pairs"), pair), field);
            numbers[side] = numbers[side] == one ? other : one;
            Check.that(field + " of the side " + side + " was changed, and isTrue() finds it",
                    !x.isTrue());
        }
    }

    /** (1) and (6): with a right claim, and with what honest() tells, all challenges win. */
    private static void game() throws ReflectiveOperationException {
        for (int rounds = 0; rounds <= 3; rounds++) {
            Veilbourse x = new Veilbourse();
            x.fill(0, 1, 2, 3, 4, 5, 6, 0, 1);
            x.play(0, x.total(0));
            for (int round = 0; round < rounds; round++) {
                int right = x.honest();
                x.send(right / 32, right % 32);
                x.draw(round + 2);
            }
            changed("the claim after " + rounds, x, inside(x, "game"), "claim", 0, 1);
        }
    }

    /** (8): what was minted stands, or was paid. */
    private static void ledger(String field) throws ReflectiveOperationException {
        Veilbourse x = new Veilbourse();
        x.mint(3, 3);
        x.split(0, 1, 2);
        changed(field + " of the ledger", x, inside(x, "ledger"), field, 1, 16);
    }
}
