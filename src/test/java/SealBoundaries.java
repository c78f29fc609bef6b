/** The boundary cases of the promises 17 to 28: commitments and seals. */
final class SealBoundaries {

    private static final int[] PRIMES = {3, 5, 7, 11, 13, 17, 19, 23};
    private static final int[] MODULI = {7, 11, 29, 23, 53, 103, 191, 47};
    /** The least a to the power of (q - 1) / p that is not 1, modulo q. */
    private static final int[] GENERATORS = {4, 4, 16, 4, 16, 64, 69, 4};
    private static final int LEAST = Integer.MIN_VALUE;
    private static final int MOST = Integer.MAX_VALUE;

    private SealBoundaries() {
    }

    static void all() {
        base();
        isMember();
        log();
        commit();
        isOpened();
        breaks();
        breaksIntoItself();
        seal();
        twin();
        twinIsThere();
        root();
        beside();
        climb();
        partsAtEachStep();
        partsLowest();
        partsNone();
    }

    private static int power(int field, int exponent) {
        int y = 1;
        for (int i = 0; i < exponent; i++) {
            y = y * GENERATORS[field] % MODULI[field];
        }
        return y;
    }

    private static Bounds.Setting field(int field) {
        return x -> x.field(field);
    }

    // 17: the rest by p - 1 comes round; no base is 1.
    private static void base() {
        for (int field = 0; field < 8; field++) {
            for (int i = 0; i < 9; i++) {
                int asked = i;
                int exponent = 1 + (i * i + i) % (PRIMES[field] - 1);
                Bounds.answers(17, "base " + i + " of " + PRIMES[field], power(field, exponent),
                        field(field), x -> x.base(asked));
            }
        }
    }

    // 18: 1 to q - 1; just p of them.
    private static void isMember() {
        for (int field = 0; field < 8; field++) {
            int q = MODULI[field];
            Bounds.Setting taken = field(field);
            Bounds.answers(18, "as many as numbers", PRIMES[field], taken, x -> {
                int many = 0;
                for (int y = -5; y < q + 5; y++) {
                    many += x.isMember(y) ? 1 : 0;
                }
                return many;
            });
            Bounds.answers(18, "1", true, taken, x -> x.isMember(1));
            Bounds.answers(18, "the last power", true, taken,
                    x -> x.isMember(power(fieldOf(x), PRIMES[fieldOf(x)] - 1)));
            int[] others = {0, -1, q - 1, q, q + 1, 1 - q, 2 * q + 1, LEAST, MOST, 192, 191, -192};
            for (int y : others) {
                Bounds.answers(18, y + " modulo " + q, false, taken, x -> x.isMember(y));
            }
        }
    }

    private static int fieldOf(Veilbourse x) {
        for (int field = 0; field < 8; field++) {
            if (MODULI[field] == x.modulus()) {
                return field;
            }
        }
        throw new AssertionError("there is no such field");
    }

    // 19: 1 has the exponent 0, B has 1, and the last one p - 1.
    private static void log() {
        for (int field = 0; field < 8; field++) {
            int p = PRIMES[field];
            int[] exponents = {0, 1, 2, p - 1};
            for (int exponent : exponents) {
                int y = power(field, exponent);
                Bounds.answers(19, "log " + y, exponent, field(field), x -> x.log(y));
            }
        }
    }

    // 20: the least and the greatest numbers.
    private static void commit() {
        Bounds.Setting full = Bounds.rows(Bounds.of(6, 6, 6, 6, 6, 6, 6, 6),
                Bounds.of(1), Bounds.of(0, 0, 0, 0, 0, 0, 0, 1));
        // The exponents of G0 to G7 are 1 3 1 1 3 1 1 3, together 14; that of H is 1.
        Bounds.answers(20, "noughts and 0", 1, full, x -> x.commit(7, 0));
        Bounds.answers(20, "noughts and 6", power(2, 6), full, x -> x.commit(7, 6));
        Bounds.answers(20, "all 6 and 0", power(2, 6 * 14 % 7), full, x -> x.commit(0, 0));
        Bounds.answers(20, "all 6 and 6", power(2, 6 * 15 % 7), full, x -> x.commit(0, 6));
        Bounds.answers(20, "the place 0 alone", power(2, 1), full, x -> x.commit(1, 0));
        Bounds.answers(20, "the place 7 alone", power(2, 3), full, x -> x.commit(2, 0));
        Bounds.answers(20, "it comes round to 1", 1, full, x -> x.commit(1, 6));
    }

    // 21: each of y, row and blind number wrong by one.
    private static void isOpened() {
        Bounds.Setting full = Bounds.rows(Bounds.of(6, 0, 0, 0, 0, 0, 0, 6));
        int y = power(2, 6 + 18 + 6);
        Bounds.answers(21, "opened", true, full, x -> x.isOpened(y, 0, 6));
        Bounds.answers(21, "another blind number", false, full, x -> x.isOpened(y, 0, 5));
        Bounds.answers(21, "0 as blind number", false, full, x -> x.isOpened(y, 0, 0));
        Bounds.answers(21, "another row", false, full, x -> x.isOpened(y, 1, 6));
        Bounds.answers(21, "the next member", false, full, x -> x.isOpened(power(2, 3), 0, 6));
        Bounds.answers(21, "1 is opened by noughts", true, full, x -> x.isOpened(1, 1, 0));
        Bounds.refused(21, Check.ARGUMENT, "both are wrong", full, x -> x.isOpened(0, 0, 7));
        Bounds.first(21, Check.INDEX, Check.ARGUMENT, "all are wrong", full,
                x -> x.isOpened(0, 8, 7));
    }

    // 22: at each place; p - 1 becomes 0.
    private static void breaks() {
        int[] weights = {1, 3, 1, 1, 3, 1, 1, 3};
        for (int place = 0; place < 8; place++) {
            int asked = place;
            for (int blind = 0; blind < 7; blind += 3) {
                int given = blind;
                Bounds.Setting full = Bounds.rows(Bounds.of(6, 6, 6, 6, 6, 6, 6, 6),
                        Bounds.of(5, 5, 5, 5, 5, 5, 5, 5));
                int due = (blind - weights[place] + 7) % 7;
                Bounds.answers(22, "at " + place, due, full, x -> x.breaks(0, given, asked, 2));
                Bounds.answers(22, "6 becomes 0 at " + place,
                        "6 6 6 6 6 6 6 6".substring(0, 2 * place) + "0"
                                + "6 6 6 6 6 6 6 6".substring(2 * place + 1), full, x -> {
                            x.breaks(0, given, asked, 2);
                            return Bounds.row(x, 2);
                        });
                Bounds.answers(22, "5 becomes 6 at " + place, 6, full, x -> {
                    x.breaks(1, given, asked, 2);
                    return x.get(2, asked);
                });
                Bounds.answers(22, "it is opened at " + place, true, full, x -> {
                    int y = x.commit(0, given);
                    int other = x.breaks(0, given, asked, 2);
                    return x.isOpened(y, 2, other);
                });
            }
        }
    }

    private static void breaksIntoItself() {
        Bounds.Setting full = Bounds.rows(Bounds.of(6, 2, 3, 4, 5, 6, 0, 1));
        Bounds.answers(22, "into itself", "6 2 3 4 5 6 0 2", full, x -> {
            x.breaks(0, 0, 7, 0);
            return Bounds.row(x, 0);
        });
        Bounds.answers(22, "the blind number then", 4, full, x -> x.breaks(0, 0, 7, 0));
        Bounds.answers(22, "the row stays", "6 2 3 4 5 6 0 1", full, x -> {
            x.breaks(0, 0, 7, 1);
            return Bounds.row(x, 0);
        });
    }

    private static int sealed(int a, int b) {
        return (a * a * a + 7 * b * b + 5 * a * b + 3 * a + b + 11) % 251;
    }

    // 23: the corners of the range.
    private static void seal() {
        Bounds.Setting none = Bounds.in(Scenes::nothing);
        Bounds.answers(23, "of 0 and 0", 11, none, x -> x.seal(0, 0));
        // Modulo 251, 250 is -1.
        Bounds.answers(23, "of 250 and 0", -1 - 3 + 11, none, x -> x.seal(250, 0));
        Bounds.answers(23, "of 0 and 250", 7 - 1 + 11, none, x -> x.seal(0, 250));
        Bounds.answers(23, "of 250 and 250", -1 + 7 + 5 - 3 - 1 + 11, none,
                x -> x.seal(250, 250));
        Bounds.answers(23, "it comes round", 4 * 4 * 4 + 7 * 25 + 100 + 12 + 5 + 11 - 251, none,
                x -> x.seal(4, 5));
        Bounds.refused(23, Check.ARGUMENT, "both are out of range", none, x -> x.seal(251, -1));
    }

    // 24: the first other pair, by c, then by d.
    private static void twin() {
        int[] numbers = {0, 1, 2, 125, 249, 250};
        for (int a : numbers) {
            for (int b : numbers) {
                int due = -1;
                for (int n = 251 * 251 - 1; n >= 0; n--) {
                    boolean isOther = n != 251 * a + b;
                    due = isOther && sealed(n / 251, n % 251) == sealed(a, b) ? n : due;
                }
                Bounds.answers(24, "twin of " + a + " and " + b, due,
                        Bounds.in(Scenes::nothing), x -> x.twin(a, b));
            }
        }
        Bounds.Setting none = Bounds.in(Scenes::nothing);
        Bounds.answers(24, "the twin of the first pair of its seal is the next", 215, none,
                x -> x.twin(0, 0));
        Bounds.answers(24, "the twin of the next one is the first", 0, none, x -> x.twin(0, 215));
    }

    /** NONE is never due: each seal is that of two pairs at least. */
    private static void twinIsThere() {
        int[] many = new int[251];
        for (int n = 0; n < 251 * 251; n++) {
            many[sealed(n / 251, n % 251)]++;
        }
        for (int seal = 0; seal < 251; seal++) {
            Check.that("24: the seal " + seal + " has more than one pair", many[seal] > 1);
        }
    }

    // 25: rows of the least and of the greatest numbers.
    private static void root() {
        for (int field = 0; field < 8; field++) {
            int p = PRIMES[field];
            int asked = field;
            for (int n = 0; n < p; n += p - 1) {
                int number = n;
                Bounds.answers(25, "of " + n + " of " + p, rootOf(number), x -> {
                    x.field(asked);
                    x.fill(7, number, number, number, number, number, number, number, number);
                }, x -> x.root(7));
            }
        }
    }

    /** The root of a row of which all numbers are the same. */
    private static int rootOf(int number) {
        int[] level = new int[8];
        for (int i = 0; i < 8; i++) {
            level[i] = sealed(number, i);
        }
        for (int many = 4; many > 0; many /= 2) {
            for (int i = 0; i < many; i++) {
                level[i] = sealed(level[2 * i], level[2 * i + 1]);
            }
        }
        return level[0];
    }

    // 26: the first and the last place and step; all ways lead to the root.
    private static void beside() {
        Bounds.Setting full = Bounds.rows(Bounds.of(1, 2, 3, 4, 5, 6, 0, 1));
        int[] leaves = new int[8];
        for (int i = 0; i < 8; i++) {
            leaves[i] = sealed(i < 6 ? i + 1 : i - 6, i);
        }
        Bounds.answers(26, "beside the first leaf", leaves[1], full, x -> x.beside(0, 0, 0));
        Bounds.answers(26, "beside the last leaf", leaves[6], full, x -> x.beside(0, 7, 0));
        Bounds.answers(26, "above the first", sealed(leaves[2], leaves[3]), full,
                x -> x.beside(0, 0, 1));
        Bounds.answers(26, "above the last", sealed(leaves[4], leaves[5]), full,
                x -> x.beside(0, 7, 1));
        int left = sealed(sealed(leaves[0], leaves[1]), sealed(leaves[2], leaves[3]));
        int right = sealed(sealed(leaves[4], leaves[5]), sealed(leaves[6], leaves[7]));
        for (int place = 0; place < 8; place++) {
            int asked = place;
            Bounds.answers(26, "the other half of " + place, place < 4 ? right : left, full,
                    x -> x.beside(0, asked, 2));
            Bounds.answers(26, "the way from " + place, sealed(left, right), full,
                    x -> x.climb(asked, x.get(0, asked), x.beside(0, asked, 0),
                            x.beside(0, asked, 1), x.beside(0, asked, 2)));
        }
    }

    private static int above(int place, int step, int below, int next) {
        return (place >> step) % 2 == 0 ? sealed(below, next) : sealed(next, below);
    }

    private static int climbed(int place, int value, int a, int b, int c) {
        int first = above(place, 0, sealed(value, place), a);
        return above(place, 2, above(place, 1, first, b), c);
    }

    // 27: the least and the greatest seals, left and right at each step.
    private static void climb() {
        int[][] ways = {{0, 0, 0, 0}, {6, 250, 250, 250}, {0, 250, 0, 0}, {0, 0, 250, 0},
            {6, 0, 0, 250}};
        for (int place = 0; place < 8; place++) {
            for (int[] way : ways) {
                int from = place;
                Bounds.answers(27, "from " + place,
                        climbed(place, way[0], way[1], way[2], way[3]),
                        Bounds.in(Scenes::nothing),
                        x -> x.climb(from, way[0], way[1], way[2], way[3]));
            }
        }
    }

    // 28: 0 for the leaves, 1 to 3 above; at each place the pairs are left and right otherwise.
    private static void partsAtEachStep() {
        for (int place = 0; place < 8; place++) {
            for (int step = 1; step < 4; step++) {
                partsAt(place, step);
            }
            partsAtLastStep(place);
        }
        // The seals of 11 and 6 at the place 5 are the same.
        Check.equal("28: two leaves", sealed(11, 5), sealed(6, 5));
        Bounds.answers(28, "at the leaves", 0, field(4),
                x -> x.parts(5, 11, 0, 250, 0, 6, 0, 250, 0));
    }

    private static void partsAt(int place, int step) {
        int[] way = {7, 8, 9};
        int[] other = {7, 8, 9};
        boolean isFound = false;
        for (int n = 0; n < 251 * 251 && !isFound; n++) {
            way[step - 1] = n / 251;
            other[step - 1] = n % 251;
            isFound = n / 251 != n % 251 && climbed(place, 1, way[0], way[1], way[2])
                    == climbed(place, 1, other[0], other[1], other[2])
                    && (step == 3 || unlikeAt(place, way, other, step) == 0);
        }
        Check.that("28: there are two such ways", isFound);
        Bounds.answers(28, "from " + place + " at " + step, step, Bounds.in(Scenes::nothing),
                x -> x.parts(place, 1, way[0], way[1], way[2], 1, other[0], other[1], other[2]));
        Bounds.answers(28, "from " + place + " at " + step + ", asked the other way", step,
                Bounds.in(Scenes::nothing),
                x -> x.parts(place, 1, other[0], other[1], other[2], 1, way[0], way[1], way[2]));
    }

    /** 0 if the seals of this step are the same. */
    private static int unlikeAt(int place, int[] way, int[] other, int step) {
        int seal = sealed(1, place);
        int second = seal;
        for (int i = 0; i < step; i++) {
            seal = above(place, i, seal, way[i]);
            second = above(place, i, second, other[i]);
        }
        return seal - second;
    }

    /** Unlike from the leaf on, and of one seal only at the root. */
    private static void partsAtLastStep(int place) {
        int root = climbed(place, 0, 1, 2, 3);
        int[] found = {-1, -1};
        for (int value = 1; value < 7 && found[0] < 0; value++) {
            for (int c = 0; c < 251 && found[0] < 0; c++) {
                boolean isApart = sealed(0, place) != sealed(value, place)
                        && partOf(place, 0) != partOf(place, value)
                        && above(place, 1, partOf(place, 0), 2)
                        != above(place, 1, partOf(place, value), 2);
                if (isApart && climbed(place, value, 1, 2, c) == root) {
                    found[0] = value;
                    found[1] = c;
                }
            }
        }
        Check.that("28: there is another way to the root from " + place, found[0] > 0);
        Bounds.answers(28, "from " + place + " unlike up to the root", 3,
                Bounds.in(Scenes::nothing),
                x -> x.parts(place, 0, 1, 2, 3, found[0], 1, 2, found[1]));
    }

    private static int partOf(int place, int value) {
        return above(place, 0, sealed(value, place), 1);
    }

    // 28: with breaks at two steps the lower one is told.
    private static void partsLowest() {
        int leaf = sealed(11, 5);
        int[] pair = pairBeside(leaf);
        Bounds.answers(28, "at the leaves and above", 0, field(4),
                x -> x.parts(5, 11, pair[0], 2, 3, 6, pair[1], 2, 3));
        Bounds.answers(28, "above alone", 1, field(4),
                x -> x.parts(5, 11, pair[0], 2, 3, 11, pair[1], 2, 3));
        int first = above(0, 0, sealed(1, 0), 9);
        int a2 = twinBeside(sealed(1, 0), 9);
        int c2 = twinBeside(sealed(first, 4), 9);
        Bounds.answers(28, "a break at 1 and one at 3", 1, Bounds.in(Scenes::nothing),
                x -> x.parts(0, 1, 9, 4, 9, 1, a2, 4, c2));
    }

    /** Two numbers that have, on the left of this one, the same seal. */
    private static int[] pairBeside(int below) {
        for (int n = 0; n < 251; n++) {
            for (int other = n + 1; other < 251; other++) {
                if (sealed(n, below) == sealed(other, below)) {
                    return new int[] {n, other};
                }
            }
        }
        throw new AssertionError("there are no two such numbers");
    }

    /** Another number that has, on the right of this one, the same seal. */
    private static int twinBeside(int below, int next) {
        for (int n = 0; n < 251; n++) {
            if (n != next && sealed(below, n) == sealed(below, next)) {
                return n;
            }
        }
        throw new AssertionError("there is no such number");
    }

    // 28: NONE if the ways are alike, or lead to unlike roots.
    private static void partsNone() {
        for (int place = 0; place < 8; place++) {
            int from = place;
            Bounds.answers(28, "alike from " + place, -1, Bounds.in(Scenes::nothing),
                    x -> x.parts(from, 6, 0, 125, 250, 6, 0, 125, 250));
            Check.that("28: unlike roots", climbed(place, 6, 0, 1, 2) != climbed(place, 6, 0, 1, 3));
            Bounds.answers(28, "unlike roots from " + place, -1, Bounds.in(Scenes::nothing),
                    x -> x.parts(from, 6, 0, 1, 2, 6, 0, 1, 3));
        }
        Check.that("28: unlike roots above one leaf's seal",
                climbed(5, 11, 0, 1, 2) != climbed(5, 6, 0, 1, 3));
        Bounds.answers(28, "a break of the leaves below unlike roots", -1, field(4),
                x -> x.parts(5, 11, 0, 1, 2, 6, 0, 1, 3));
    }
}
