import java.math.BigInteger;
import java.util.ArrayList;
import java.util.Arrays;
import java.util.List;

/**
 * The document's words once more, in other ways than the program's: by trying out what can be
 * tried out, and with what is not there as null. Its methods bear the names of the face's.
 */
public final class Model {

    private static final int[] PRIMES = {3, 5, 7, 11, 13, 17, 19, 23};

    /** A run, with null for what is not there. */
    private static final class Sitting {
        Integer y;
        Integer v;
        Integer a;
        Integer w;
        Integer c;
        Integer t;
        int[] form;
        int[] mask;
        Integer maskBlind;
        int[] answer;
    }

    /** A pair, with null for what is not there. */
    private static final class Bit {
        Integer y;
        int bit;
        int blind;
        Integer mask;
        Integer c;
        Integer[][] told;
    }

    private record Gate(int kind, int a, int b, int c) {
    }

    private int p;
    private int q;
    private int generator;
    private int[][] rows;
    private Sitting[] runs;
    private Bit[] pairs;
    private List<Gate> gates;
    private List<Integer> notes;
    private int[] played;
    private int claim;
    private List<Integer> drawn;
    private int[] line;

    public Model() {
        begin(7);
    }

    private void begin(int numbers) {
        p = numbers;
        q = p + 1;
        while ((q - 1) % p != 0 || !BigInteger.valueOf(q).isProbablePrime(30)) {
            q++;
        }
        int a = 2;
        while (power(a, (q - 1) / p) == 1) {
            a++;
        }
        generator = power(a, (q - 1) / p);
        rows = new int[8][8];
        runs = new Sitting[] {new Sitting(), new Sitting(), new Sitting(), new Sitting()};
        pairs = new Bit[] {new Bit(), new Bit()};
        gates = new ArrayList<>();
        notes = new ArrayList<>();
        played = null;
        drawn = new ArrayList<>();
        line = null;
    }

    // What is reckoned with.

    private int power(int y, int exponent) {
        return BigInteger.valueOf(y).modPow(BigInteger.valueOf(exponent), BigInteger.valueOf(q))
                .intValue();
    }

    private int mod(long n) {
        return (int) Math.floorMod(n, (long) p);
    }

    private int over(int a, int b) {
        return mod((long) a * BigInteger.valueOf(mod(b)).modInverse(BigInteger.valueOf(p)).intValue());
    }

    private int member(int y, int other) {
        return y * other % q;
    }

    private int memberOver(int y, int other) {
        return member(y, power(other, q - 2));
    }

    private int g(int i) {
        return power(generator, 1 + (i * i + i) % (p - 1));
    }

    private int commitment(int[] row, int blind) {
        int y = power(g(8), blind);
        for (int i = 0; i < 8; i++) {
            y = member(y, power(g(i), row[i]));
        }
        return y;
    }

    private int product(int[] row, int[] other) {
        long sum = 0;
        for (int i = 0; i < 8; i++) {
            sum += (long) row[i] * other[i];
        }
        return mod(sum);
    }

    private static int degreeOf(int[] row) {
        int degree = -1;
        for (int i = 0; i < 8; i++) {
            degree = row[i] != 0 ? i : degree;
        }
        return degree;
    }

    private int at(int[] row, int x) {
        BigInteger sum = BigInteger.ZERO;
        for (int i = 0; i < row.length; i++) {
            sum = sum.add(BigInteger.valueOf(x).pow(i).multiply(BigInteger.valueOf(row[i])));
        }
        return sum.mod(BigInteger.valueOf(p)).intValue();
    }

    private static int sealed(long a, long b) {
        return (int) ((a * a * a + 7 * b * b + 5 * a * b + 3 * a + b + 11) % 251);
    }

    // What is asked of the arguments.

    private static void index(boolean holds) {
        if (!holds) {
            throw new IndexOutOfBoundsException();
        }
    }

    private static void argument(boolean holds) {
        if (!holds) {
            throw new IllegalArgumentException();
        }
    }

    private static void state(boolean holds) {
        if (!holds) {
            throw new IllegalStateException();
        }
    }

    private static boolean within(int n, int end) {
        return n >= 0 && n < end;
    }

    private static void rowsThere(int... asked) {
        for (int row : asked) {
            index(within(row, 8));
        }
    }

    private void numbersThere(int... asked) {
        for (int n : asked) {
            argument(within(n, p));
        }
    }

    private void sealsThere(int... asked) {
        for (int n : asked) {
            argument(within(n, 251));
        }
    }

    private static void runsThere(int... asked) {
        for (int n : asked) {
            index(within(n, 4));
        }
    }

    private int make(int to, int[] row) {
        rows[to] = row.clone();
        return degreeOf(row);
    }

    // The field.

    public int field(int number) {
        argument(within(number, 8));
        begin(PRIMES[number]);
        return p;
    }

    public int modulus() {
        return q;
    }

    // Rows.

    public int put(int row, int place, int value) {
        index(within(row, 8) && within(place, 8));
        numbersThere(value);
        int before = rows[row][place];
        rows[row][place] = value;
        return before;
    }

    public int fill(int row, int a, int b, int c, int d, int e, int f, int g, int h) {
        rowsThere(row);
        return make(row, new int[] {mod(a), mod(b), mod(c), mod(d), mod(e), mod(f), mod(g), mod(h)});
    }

    public int get(int row, int place) {
        index(within(row, 8) && within(place, 8));
        return rows[row][place];
    }

    public int degree(int row) {
        rowsThere(row);
        return degreeOf(rows[row]);
    }

    public int value(int row, int x) {
        rowsThere(row);
        numbersThere(x);
        return at(rows[row], x);
    }

    public int inner(int row, int other) {
        rowsThere(row, other);
        return product(rows[row], rows[other]);
    }

    private int[] joined(int[] row, int[] other, int factor) {
        int[] sum = new int[8];
        for (int i = 0; i < 8; i++) {
            sum[i] = mod(row[i] + (long) factor * other[i]);
        }
        return sum;
    }

    public int mix(int row, int other, int factor, int to) {
        rowsThere(row, other, to);
        numbersThere(factor);
        return make(to, joined(rows[row], rows[other], factor));
    }

    public int times(int row, int other, int to) {
        rowsThere(row, other, to);
        int[] product = new int[15];
        for (int i = 0; i < 8; i++) {
            for (int j = 0; j < 8; j++) {
                product[i + j] = mod(product[i + j] + rows[row][i] * rows[other][j]);
            }
        }
        for (int i = 8; i < 15; i++) {
            state(product[i] == 0);
        }
        return make(to, Arrays.copyOf(product, 8));
    }

    public int divide(int row, int by, int quotient, int rest) {
        rowsThere(row, by, quotient, rest);
        argument(quotient != rest);
        int[] left = rows[row].clone();
        int[] divisor = rows[by].clone();
        int degree = degreeOf(divisor);
        if (degree < 0) {
            throw new ArithmeticException();
        }
        int[] whole = new int[8];
        while (degreeOf(left) >= degree) {
            int high = degreeOf(left) - degree;
            whole[high] = mod(whole[high] + 1);
            for (int i = 0; i <= degree; i++) {
                left[high + i] = mod(left[high + i] - divisor[i]);
            }
        }
        make(quotient, whole);
        return make(rest, left);
    }

    /** By elimination from the equations that the points and values make. */
    public int through(int points, int values, int many, int to) {
        rowsThere(points, values, to);
        argument(many >= 1 && many <= 8);
        int[][] equations = new int[many][many + 1];
        for (int i = 0; i < many; i++) {
            for (int j = 0; j < i; j++) {
                argument(rows[points][i] != rows[points][j]);
            }
            for (int j = 0; j < many; j++) {
                equations[i][j] = BigInteger.valueOf(rows[points][i]).pow(j)
                        .mod(BigInteger.valueOf(p)).intValue();
            }
            equations[i][many] = rows[values][i];
        }
        eliminate(equations, many);
        int[] made = new int[8];
        for (int i = 0; i < many; i++) {
            made[i] = equations[i][many];
        }
        return make(to, made);
    }

    private void eliminate(int[][] equations, int many) {
        for (int column = 0; column < many; column++) {
            int pivot = column;
            while (equations[pivot][column] == 0) {
                pivot++;
            }
            int[] chosen = equations[pivot];
            equations[pivot] = equations[column];
            equations[column] = chosen;
            int lead = chosen[column];
            for (int j = 0; j <= many; j++) {
                chosen[j] = over(chosen[j], lead);
            }
            for (int i = 0; i < many; i++) {
                int factor = equations[i][column];
                for (int j = 0; i != column && j <= many; j++) {
                    equations[i][j] = mod(equations[i][j] - factor * chosen[j]);
                }
            }
        }
    }

    public int powers(int x, int to) {
        rowsThere(to);
        numbersThere(x);
        int[] made = new int[8];
        for (int i = 0; i < 8; i++) {
            made[i] = BigInteger.valueOf(x).pow(i).mod(BigInteger.valueOf(p)).intValue();
        }
        return make(to, made);
    }

    public boolean isMixed(int row, int other) {
        rowsThere(row, other);
        int[] first = rows[row].clone();
        int[] second = rows[other].clone();
        Arrays.sort(first);
        Arrays.sort(second);
        return Arrays.equals(first, second);
    }

    public int meets(int row, int other) {
        rowsThere(row, other);
        int many = 0;
        for (int x = 0; x < p; x++) {
            BigInteger first = BigInteger.ONE;
            BigInteger second = BigInteger.ONE;
            for (int i = 0; i < 8; i++) {
                first = first.multiply(BigInteger.valueOf(x + rows[row][i]));
                second = second.multiply(BigInteger.valueOf(x + rows[other][i]));
            }
            many += first.subtract(second).mod(BigInteger.valueOf(p)).signum() == 0 ? 1 : 0;
        }
        return many;
    }

    // Commitments.

    public int base(int number) {
        argument(within(number, 9));
        return g(number);
    }

    public boolean isMember(int y) {
        return y >= 1 && y <= q - 1 && power(y, p) == 1;
    }

    public int log(int y) {
        argument(isMember(y));
        int exponent = 0;
        while (power(generator, exponent) != y) {
            exponent++;
        }
        return exponent;
    }

    public int commit(int row, int blind) {
        rowsThere(row);
        numbersThere(blind);
        return commitment(rows[row], blind);
    }

    public boolean isOpened(int y, int row, int blind) {
        rowsThere(row);
        argument(isMember(y));
        numbersThere(blind);
        return commitment(rows[row], blind) == y;
    }

    public int breaks(int row, int blind, int place, int to) {
        rowsThere(row, to);
        index(within(place, 8));
        numbersThere(blind);
        int y = commitment(rows[row], blind);
        int[] made = rows[row].clone();
        made[place] = mod(made[place] + 1);
        make(to, made);
        int other = 0;
        while (commitment(made, other) != y) {
            other++;
        }
        return other;
    }

    // Seals.

    public int seal(int a, int b) {
        sealsThere(a, b);
        return sealed(a, b);
    }

    public int twin(int a, int b) {
        sealsThere(a, b);
        for (int n = 0; n < 251 * 251; n++) {
            if (n != 251 * a + b && sealed(n / 251, n % 251) == sealed(a, b)) {
                return n;
            }
        }
        return -1;
    }

    /** The seals of a row by levels, from the leaves up. */
    private List<List<Integer>> levels(int row) {
        List<List<Integer>> all = new ArrayList<>();
        List<Integer> level = new ArrayList<>();
        for (int i = 0; i < 8; i++) {
            level.add(sealed(rows[row][i], i));
        }
        all.add(level);
        while (level.size() > 1) {
            List<Integer> above = new ArrayList<>();
            for (int i = 0; i < level.size(); i += 2) {
                above.add(sealed(level.get(i), level.get(i + 1)));
            }
            all.add(above);
            level = above;
        }
        return all;
    }

    public int root(int row) {
        rowsThere(row);
        return levels(row).get(3).get(0);
    }

    public int beside(int row, int place, int step) {
        index(within(row, 8) && within(place, 8) && within(step, 3));
        int node = place / (1 << step);
        return levels(row).get(step).get(node % 2 == 0 ? node + 1 : node - 1);
    }

    /** The pairs of a way, and behind them its root. */
    private List<List<Integer>> way(int place, int value, int... beside) {
        List<List<Integer>> pairsOfWay = new ArrayList<>();
        pairsOfWay.add(List.of(value, place));
        int seal = sealed(value, place);
        int node = place;
        for (int next : beside) {
            boolean isLeft = node % 2 == 0;
            List<Integer> pair = isLeft ? List.of(seal, next) : List.of(next, seal);
            pairsOfWay.add(pair);
            seal = sealed(pair.get(0), pair.get(1));
            node /= 2;
        }
        pairsOfWay.add(List.of(seal));
        return pairsOfWay;
    }

    public int climb(int place, int value, int a, int b, int c) {
        index(within(place, 8));
        numbersThere(value);
        sealsThere(a, b, c);
        return way(place, value, a, b, c).get(4).get(0);
    }

    public int parts(int place, int value, int a, int b, int c,
            int value2, int a2, int b2, int c2) {
        index(within(place, 8));
        numbersThere(value, value2);
        sealsThere(a, b, c, a2, b2, c2);
        List<List<Integer>> first = way(place, value, a, b, c);
        List<List<Integer>> second = way(place, value2, a2, b2, c2);
        if (first.equals(second) || !first.get(4).equals(second.get(4))) {
            return -1;
        }
        for (int i = 0; i < 4; i++) {
            int seal = sealed(first.get(i).get(0), first.get(i).get(1));
            int other = sealed(second.get(i).get(0), second.get(i).get(1));
            if (!first.get(i).equals(second.get(i)) && seal == other) {
                return i;
            }
        }
        throw new AssertionError("promise (7) is broken");
    }

    // Runs.

    private void begun(int run, int y, int[] form, int v) {
        runs[run] = new Sitting();
        runs[run].y = y;
        runs[run].form = form.clone();
        runs[run].v = v;
    }

    public int state(int run, int y, int form, int v) {
        runsThere(run);
        rowsThere(form);
        argument(isMember(y));
        numbersThere(v);
        begun(run, y, rows[form], v);
        return y;
    }

    public int open(int run, int mask, int blind) {
        runsThere(run);
        rowsThere(mask);
        numbersThere(blind);
        Sitting s = runs[run];
        state(s.y != null && s.a == null);
        s.mask = rows[mask].clone();
        s.maskBlind = blind;
        s.a = commitment(rows[mask], blind);
        s.w = product(s.form, rows[mask]);
        return s.a;
    }

    public int say(int run, int a, int w) {
        runsThere(run);
        argument(isMember(a));
        numbersThere(w);
        state(runs[run].y != null && runs[run].a == null);
        runs[run].a = a;
        runs[run].w = w;
        return a;
    }

    public int dare(int run, int c) {
        runsThere(run);
        numbersThere(c);
        state(runs[run].a != null && runs[run].c == null);
        runs[run].c = c;
        return c;
    }

    private int transcript(Sitting s) {
        List<Integer> numbers = new ArrayList<>();
        numbers.add(s.y);
        for (int n : s.form) {
            numbers.add(n);
        }
        numbers.addAll(List.of(s.v, s.a, s.w));
        int seal = 7;
        for (int n : numbers) {
            seal = sealed(seal, n);
        }
        return seal;
    }

    public int ask(int run) {
        runsThere(run);
        state(runs[run].a != null && runs[run].c == null);
        runs[run].c = transcript(runs[run]) % p;
        return runs[run].c;
    }

    public int reply(int run, int secret, int blind) {
        runsThere(run);
        rowsThere(secret);
        numbersThere(blind);
        Sitting s = runs[run];
        state(s.mask != null && s.c != null && s.t == null);
        s.answer = joined(s.mask, rows[secret], s.c);
        s.t = mod(s.maskBlind + s.c * blind);
        return s.t;
    }

    public int tell(int run, int answer, int t) {
        runsThere(run);
        rowsThere(answer);
        numbersThere(t);
        state(runs[run].c != null && runs[run].t == null);
        runs[run].answer = rows[answer].clone();
        runs[run].t = t;
        return t;
    }

    private boolean holds(Sitting s, int c, int[] answer, int t) {
        return commitment(answer, t) == member(s.a, power(s.y, c))
                && product(s.form, answer) == mod(s.w + c * s.v);
    }

    private boolean accepted(Sitting s) {
        return s.t != null && holds(s, s.c, s.answer, s.t);
    }

    public boolean isAccepted(int run) {
        runsThere(run);
        return accepted(runs[run]);
    }

    /** Tries all first messages until both equations hold. */
    public int simulate(int run, int c, int answer, int t) {
        runsThere(run);
        rowsThere(answer);
        numbersThere(c, t);
        Sitting s = runs[run];
        state(s.y != null && s.a == null);
        s.c = c;
        s.answer = rows[answer].clone();
        s.t = t;
        for (int e = 0; e < p * p; e++) {
            s.a = power(generator, e / p);
            s.w = e % p;
            if (accepted(s)) {
                return s.a;
            }
        }
        throw new AssertionError("promise (4) is broken");
    }

    private boolean suits(Sitting s, int[] secret, int blind) {
        return commitment(secret, blind) == s.y && product(s.form, secret) == s.v;
    }

    public int extract(int run, int second, int to) {
        runsThere(run, second);
        rowsThere(to);
        Sitting s = runs[run];
        Sitting o = runs[second];
        state(accepted(s) && accepted(o) && s.y.equals(o.y) && s.v.equals(o.v)
                && Arrays.equals(s.form, o.form) && s.a.equals(o.a) && s.w.equals(o.w)
                && !s.c.equals(o.c));
        int[] made = new int[8];
        for (int i = 0; i < 8; i++) {
            made[i] = over(s.answer[i] - o.answer[i], s.c - o.c);
        }
        int t = over(s.t - o.t, s.c - o.c);
        if (!suits(s, made, t)) {
            throw new AssertionError("promise (2) is broken");
        }
        make(to, made);
        return t;
    }

    public int maskFor(int run, int secret, int blind, int to) {
        runsThere(run);
        rowsThere(secret, to);
        numbersThere(blind);
        Sitting s = runs[run];
        state(accepted(s) && suits(s, rows[secret], blind));
        int[] made = joined(s.answer, rows[secret], -s.c);
        int t = mod(s.t - s.c * blind);
        if (commitment(made, t) != s.a || product(s.form, made) != s.w) {
            throw new AssertionError("promise (4) is broken");
        }
        make(to, made);
        return t;
    }

    public boolean fits(int run, int secret, int blind) {
        runsThere(run);
        rowsThere(secret);
        numbersThere(blind);
        state(runs[run].y != null);
        return suits(runs[run], rows[secret], blind);
    }

    /** Tries the answers that have one number beside noughts: they are as good as all others. */
    public int challenges(int run) {
        runsThere(run);
        Sitting s = runs[run];
        state(s.a != null);
        int many = 0;
        for (int c = 0; c < p; c++) {
            many += hasAnswer(s, c) ? 1 : 0;
        }
        return many;
    }

    private boolean hasAnswer(Sitting s, int c) {
        for (int place = 0; place < 8; place++) {
            for (int n = 0; n < p; n++) {
                int[] answer = new int[8];
                answer[place] = n;
                for (int t = 0; product(s.form, answer) == mod(s.w + c * s.v) && t < p; t++) {
                    if (holds(s, c, answer, t)) {
                        return true;
                    }
                }
            }
        }
        return false;
    }

    public int told(int run, int what) {
        runsThere(run);
        argument(within(what, 7));
        Sitting s = runs[run];
        if (what == 6) {
            return s.a == null ? -1 : transcript(s);
        }
        Integer number = new Integer[] {s.y, s.v, s.a, s.w, s.c, s.t}[what];
        return number == null ? -1 : number;
    }

    public int form(int run, int place, boolean isAnswer) {
        runsThere(run);
        index(within(place, 8));
        Sitting s = runs[run];
        state(s.y != null && (!isAnswer || s.t != null));
        return isAnswer ? s.answer[place] : s.form[place];
    }

    // Folding and batches.

    private void joinable(Sitting s, Sitting o, boolean isBatch) {
        state(s.y != null && o.y != null);
        state(isBatch ? s.y.equals(o.y) : Arrays.equals(s.form, o.form));
    }

    public int fold(int run, int second, int factor, int into) {
        runsThere(run, second, into);
        numbersThere(factor);
        Sitting s = runs[run];
        Sitting o = runs[second];
        joinable(s, o, false);
        begun(into, member(s.y, power(o.y, factor)), s.form, mod(s.v + factor * o.v));
        return runs[into].y;
    }

    public int batch(int run, int second, int factor, int into) {
        runsThere(run, second, into);
        numbersThere(factor);
        Sitting s = runs[run];
        Sitting o = runs[second];
        joinable(s, o, true);
        begun(into, s.y, joined(s.form, o.form, factor), mod(s.v + factor * o.v));
        return runs[into].v;
    }

    public int factors(int run, int second, int secret, boolean isBatch, int secret2) {
        runsThere(run, second);
        rowsThere(secret, secret2);
        Sitting s = runs[run];
        Sitting o = runs[second];
        joinable(s, o, isBatch);
        int many = 0;
        for (int factor = 0; factor < p; factor++) {
            int[] form = isBatch ? joined(s.form, o.form, factor) : s.form;
            int[] row = isBatch ? rows[secret] : joined(rows[secret], rows[secret2], factor);
            many += product(form, row) == mod(s.v + factor * o.v) ? 1 : 0;
        }
        return many;
    }

    // Bits.

    public int chooseBit(int pair, int bit, int blind) {
        index(within(pair, 2));
        argument(within(bit, 2));
        numbersThere(blind);
        Bit b = new Bit();
        pairs[pair] = b;
        b.bit = bit;
        b.blind = blind;
        b.y = commitment(new int[] {bit, 0, 0, 0, 0, 0, 0, 0}, blind);
        return b.y;
    }

    /** What is told by whoever owns y with a bit and a blind number. */
    private Integer[][] toldBy(int y, int bit, int blind, int[] choice, int challenge) {
        int mask = choice[0];
        int c = choice[1];
        int t = choice[2];
        int shown = bit == 0 ? memberOver(y, g(0)) : y;
        Integer[][] told = new Integer[2][];
        int own = mod(challenge - c);
        told[bit] = new Integer[] {power(g(8), mask), own, mod(mask + own * blind)};
        told[1 - bit] = new Integer[] {memberOver(power(g(8), t), power(shown, c)), c, t};
        return told;
    }

    public int hideBit(int pair, int mask, int c, int t) {
        index(within(pair, 2));
        numbersThere(mask, c, t);
        Bit b = pairs[pair];
        state(b.y != null && b.mask == null);
        b.mask = mask;
        b.told = toldBy(b.y, b.bit, b.blind, new int[] {mask, c, t}, 0);
        return 191 * b.told[0][0] + b.told[1][0];
    }

    public int dareBit(int pair, int c) {
        index(within(pair, 2));
        numbersThere(c);
        Bit b = pairs[pair];
        state(b.mask != null && b.c == null);
        b.c = c;
        Integer[] other = b.told[1 - b.bit];
        b.told = toldBy(b.y, b.bit, b.blind, new int[] {b.mask, other[1], other[2]}, c);
        return b.told[b.bit][2];
    }

    public boolean isBitAccepted(int pair) {
        index(within(pair, 2));
        Bit b = pairs[pair];
        if (b.c == null) {
            return false;
        }
        boolean holds = mod(b.told[0][1] + b.told[1][1]) == b.c;
        for (int side = 0; side < 2; side++) {
            int shown = side == 0 ? b.y : memberOver(b.y, g(0));
            Integer[] told = b.told[side];
            holds = holds && power(g(8), told[2]) == member(told[0], power(shown, told[1]));
        }
        return holds;
    }

    public int bitTold(int pair, int side, int what) {
        index(within(pair, 2));
        argument(within(side, 2) && within(what, 3));
        state(pairs[pair].c != null);
        return pairs[pair].told[side][what];
    }

    public int bitLike(int pair, int bit) {
        index(within(pair, 2));
        argument(within(bit, 2));
        Bit b = pairs[pair];
        state(b.c != null);
        int blind = 0;
        while (commitment(new int[] {bit, 0, 0, 0, 0, 0, 0, 0}, blind) != b.y) {
            blind++;
        }
        int many = 0;
        for (int n = 0; n < p * p * p; n++) {
            int[] tried = {n / p / p, n / p % p, n % p};
            // The challenge and the answer of the other side are told as they are.
            if (tried[1] == b.told[1 - bit][1] && tried[2] == b.told[1 - bit][2]) {
                many += Arrays.deepEquals(toldBy(b.y, bit, blind, tried, b.c), b.told) ? 1 : 0;
            }
        }
        return many;
    }

    // Circuits.

    public int gate(int kind, int a, int b, int c) {
        index(within(a, 8));
        index(kind != 0 && kind != 1 || within(b, 8) && within(c, 8));
        index(kind != 4 || within(b, 8));
        argument(within(kind, 5));
        argument(kind != 2 || within(b, p));
        state(gates.size() < 8);
        gates.add(new Gate(kind, a, b, c));
        return gates.size();
    }

    public int ungate() {
        int many = gates.size();
        gates.clear();
        return many;
    }

    private int fault(Gate gate, int[] values) {
        int a = values[gate.a];
        switch (gate.kind) {
            case 0:
                return mod(a + values[gate.b] - values[gate.c]);
            case 1:
                return mod(a * values[gate.b] - values[gate.c]);
            case 2:
                return mod(a - gate.b);
            case 3:
                return mod(a * a - a);
            default:
                boolean isIn = false;
                BigInteger product = BigInteger.ONE;
                for (int n : rows[gate.b]) {
                    isIn |= a == n;
                    product = product.multiply(BigInteger.valueOf(a - n));
                }
                return isIn ? 0 : product.mod(BigInteger.valueOf(p)).intValue();
        }
    }

    private int[] faultsOf(int row) {
        rowsThere(row);
        int[] made = new int[8];
        for (int i = 0; i < gates.size(); i++) {
            made[i] = fault(gates.get(i), rows[row]);
        }
        return made;
    }

    public int fails(int values) {
        int[] made = faultsOf(values);
        for (int i = 0; i < 8; i++) {
            if (made[i] != 0) {
                return i;
            }
        }
        return -1;
    }

    public int faults(int values, int to) {
        rowsThere(values, to);
        int[] made = faultsOf(values);
        make(to, made);
        return (int) Arrays.stream(made).filter(n -> n != 0).count();
    }

    public int spots(int values) {
        int[] made = faultsOf(values);
        int many = 0;
        for (int x = 0; x < p; x++) {
            many += at(made, x) == 0 ? 1 : 0;
        }
        return many;
    }

    // Sums by rounds.

    public int total(int row) {
        rowsThere(row);
        return mod(Arrays.stream(rows[row]).sum());
    }

    /** The sum over the corners, each with its weight at the point. */
    private int extended(int[] row, int x, int y, int z) {
        long sum = 0;
        for (int i = 0; i < 8; i++) {
            long weight = (i / 4 == 1 ? x : 1 - x) * (long) (i / 2 % 2 == 1 ? y : 1 - y);
            sum += weight * (i % 2 == 1 ? z : 1 - z) * row[i];
        }
        return mod(sum);
    }

    public int extend(int row, int x, int y, int z) {
        rowsThere(row);
        numbersThere(x, y, z);
        return extended(rows[row], x, y, z);
    }

    /** The sum of what is left, with these numbers behind the challenges that were drawn. */
    private int left(int... next) {
        List<Integer> all = new ArrayList<>(drawn);
        for (int n : next) {
            all.add(n);
        }
        if (all.size() == 3) {
            return extended(played, all.get(0), all.get(1), all.get(2));
        }
        int[] more = Arrays.copyOf(next, next.length + 1);
        int[] most = more.clone();
        most[next.length] = 1;
        return mod(left(more) + left(most));
    }

    /** With a small field all ways are tried; with a greater one the document's number is taken. */
    private int best(int wanted) {
        if (drawn.size() == 3) {
            return wanted == left() ? 1 : 0;
        }
        int rounds = 3 - drawn.size();
        int all = (int) Math.pow(p, rounds);
        if (p > 5) {
            return wanted == left() ? all : all - (int) Math.pow(p - 1, rounds);
        }
        int most = 0;
        for (int zero = 0; zero < p; zero++) {
            most = Math.max(most, bestWith(zero, mod(wanted - zero)));
        }
        return most;
    }

    private int bestWith(int zero, int one) {
        int sum = 0;
        for (int c = 0; c < p; c++) {
            int next = mod(zero + (long) c * (one - zero));
            drawn.add(c);
            sum += best(next);
            drawn.remove(drawn.size() - 1);
        }
        return sum;
    }

    public int play(int row, int claim) {
        rowsThere(row);
        numbersThere(claim);
        played = rows[row].clone();
        this.claim = claim;
        drawn.clear();
        line = null;
        return best(claim);
    }

    public int send(int zero, int one) {
        numbersThere(zero, one);
        state(played != null && line == null && drawn.size() < 3);
        if (mod(zero + one) != claim) {
            throw new ArithmeticException();
        }
        line = new int[] {zero, one};
        return bestWith(zero, one);
    }

    public int draw(int c) {
        numbersThere(c);
        state(line != null);
        claim = mod(line[0] * (1L - c) + (long) line[1] * c);
        drawn.add(c);
        line = null;
        return claim;
    }

    public int honest() {
        state(played != null && line == null && drawn.size() < 3);
        return 32 * left(0) + left(1);
    }

    public boolean isWon() {
        state(played != null);
        return drawn.size() == 3 && claim == left();
    }

    public int chances() {
        state(played != null);
        return line == null ? best(claim) : bestWith(line[0], line[1]);
    }

    // The ledger.

    public int mint(int amount, int blind) {
        numbersThere(amount, blind);
        state(notes.size() < 16);
        notes.add(commitment(new int[] {amount, 0, 0, 0, 0, 0, 0, 0}, blind));
        return notes.size() - 1;
    }

    public int split(int note, int amount, int blind) {
        index(within(note, notes.size()));
        numbersThere(amount, blind);
        state(notes.get(note) != 0 && notes.size() + 2 <= 16);
        int y = notes.get(note);
        int first = commitment(new int[] {amount, 0, 0, 0, 0, 0, 0, 0}, blind);
        notes.set(note, 0);
        notes.add(first);
        notes.add(memberOver(y, first));
        return notes.size() - 2;
    }

    public int merge(int note, int second) {
        index(within(note, notes.size()) && within(second, notes.size()));
        argument(note != second);
        state(notes.get(note) != 0 && notes.get(second) != 0 && notes.size() < 16);
        notes.add(member(notes.get(note), notes.get(second)));
        notes.set(note, 0);
        notes.set(second, 0);
        return notes.size() - 1;
    }

    /** How many notes there are; the face does not tell it. */
    int notes() {
        return notes.size();
    }

    public int note(int note) {
        index(within(note, notes.size()));
        return notes.get(note);
    }

    public int pay(int note, int run) {
        index(within(note, notes.size()));
        runsThere(run);
        Sitting s = runs[run];
        state(notes.get(note) != 0 && accepted(s) && s.y.equals(notes.get(note))
                && Arrays.equals(s.form, new int[] {1, 0, 0, 0, 0, 0, 0, 0})
                && s.c == transcript(s) % p);
        notes.set(note, 0);
        return s.v;
    }

    public int standing() {
        int y = 1;
        for (int n : notes) {
            y = n == 0 ? y : member(y, n);
        }
        return y;
    }

    // All.

    public double risk(int many) {
        argument(many >= 1 && many <= 30);
        double product = 1.0;
        for (int i = 0; i < many; i++) {
            product *= (double) (3 * p * p - 3 * p + 1) / (double) (p * p * p);
        }
        return product;
    }

    public long checksum() {
        List<Integer> all = new ArrayList<>();
        all.add(p);
        for (int[] row : rows) {
            for (int n : row) {
                all.add(n);
            }
        }
        for (int i = 0; i < 24; i++) {
            all.add(told(i / 6, i % 6));
        }
        all.addAll(notes);
        all.add(gates.size());
        long sum = 7;
        for (int n : all) {
            sum = 31 * sum + n;
        }
        return sum;
    }

    public boolean isTrue() {
        return true;
    }
}
