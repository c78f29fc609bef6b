/** The boundary cases of the promises 1 to 16: a new object, the field and the rows. */
final class RowBoundaries {

    private static final int[] PRIMES = {3, 5, 7, 11, 13, 17, 19, 23};
    private static final String NOUGHTS = "0 0 0 0 0 0 0 0";

    private RowBoundaries() {
    }

    static void all() {
        aNewObject();
        fieldAsAtFirst();
        modulus();
        put();
        fill();
        degree();
        value();
        inner();
        mix();
        mixIntoItself();
        times();
        timesTooHigh();
        timesIntoItself();
        divide();
        divideIntoItself();
        divideRefused();
        through();
        throughIntoItself();
        throughRefused();
        powers();
        isMixed();
        meets();
        manyCalls();
    }

    // 1: nothing is there yet.
    private static void aNewObject() {
        Bounds.Setting none = Bounds.in(Scenes::nothing);
        Bounds.answers(1, "6 is a number of the first field", 0, none, x -> x.put(0, 0, 6));
        Bounds.refused(4, Check.ARGUMENT, "7 is none", none, x -> x.put(0, 0, 7));
        Bounds.answers(1, "q is 29", 29, none, x -> x.modulus());
        for (int row = 0; row < 8; row++) {
            int asked = row;
            Bounds.answers(1, "row " + row, NOUGHTS, none, x -> Bounds.row(x, asked));
        }
        for (int run = 0; run < 4; run++) {
            int asked = run;
            for (int what = 0; what < 7; what++) {
                int told = what;
                Bounds.answers(1, "told " + run + " " + what, -1, none, x -> x.told(asked, told));
            }
            Bounds.answers(1, "isAccepted " + run, false, none, x -> x.isAccepted(asked));
            Bounds.refused(43, Check.STATE, "form", none, x -> x.form(asked, 0, false));
            Bounds.refused(43, Check.STATE, "Z", none, x -> x.form(asked, 0, true));
            Bounds.refused(40, Check.STATE, "fits", none, x -> x.fits(asked, 0, 0));
        }
        for (int pair = 0; pair < 2; pair++) {
            int asked = pair;
            Bounds.answers(1, "isBitAccepted", false, none, x -> x.isBitAccepted(asked));
            Bounds.refused(48, Check.STATE, "hideBit", none, x -> x.hideBit(asked, 0, 0, 0));
            Bounds.refused(51, Check.STATE, "bitTold", none, x -> x.bitTold(asked, 0, 0));
        }
        Bounds.answers(1, "no gate", 0, none, x -> x.ungate());
        Bounds.refused(65, Check.STATE, "no game", none, x -> x.chances());
        Bounds.refused(69, Check.INDEX, "no note", none, x -> x.note(0));
        Bounds.answers(1, "the first note is 0", 0, none, x -> x.mint(1, 1));
        Bounds.answers(1, "nothing stands", 1, none, x -> x.standing());
        Bounds.answers(1, "two objects are apart", NOUGHTS, none, x -> {
            new Veilbourse().put(0, 0, 3);
            return Bounds.row(x, 0);
        });
    }

    // 2: "Everything becomes as it is at first", with the field that it was, too.
    private static void fieldAsAtFirst() {
        Scenes.Scene[] scenes = {Scenes::rows, Scenes::stated, Scenes::dared, Scenes::answered,
            Scenes::simulated, Scenes::chosen, Scenes::hidden, Scenes::bitsDared,
            Scenes::eightGates, Scenes::played, Scenes::sent, Scenes::drawn, Scenes::over,
            Scenes::fourSpentNotes, Scenes::sixteenNotes, Scenes::payable};
        for (Scenes.Scene scene : scenes) {
            for (int field = 0; field < 8; field++) {
                Veilbourse x = Bounds.made(Bounds.in(2, scene));
                Check.equal("2: the field " + field, x.field(field), PRIMES[field]);
                Veilbourse y = new Veilbourse();
                y.field(field);
                Check.that("2: all is as at first", Probe.of(x).equals(Probe.of(y)));
            }
        }
        Veilbourse x = Bounds.made(Bounds.in(Scenes::payable));
        x.field(2);
        Check.that("2: the first field is the one of a new object",
                Probe.of(x).equals(Probe.of(new Veilbourse())));
    }

    // 3: the least prime above p of which q - 1 is divisible by p.
    private static void modulus() {
        for (int field = 0; field < 8; field++) {
            int asked = field;
            int q = PRIMES[field] + 1;
            while ((q - 1) % PRIMES[field] != 0 || !isPrime(q)) {
                q++;
            }
            Bounds.answers(3, "q of " + PRIMES[field], q, x -> x.field(asked), x -> x.modulus());
        }
    }

    private static boolean isPrime(int n) {
        for (int d = 2; d < n; d++) {
            if (n % d == 0) {
                return false;
            }
        }
        return true;
    }

    // 4 and 6: the corners of the rows, and what was there.
    private static void put() {
        int[][] corners = {{0, 0}, {0, 7}, {7, 0}, {7, 7}};
        for (int[] corner : corners) {
            Bounds.Setting full = x -> x.put(corner[0], corner[1], 6);
            Bounds.answers(4, "nothing was there", 0, Bounds.in(Scenes::nothing),
                    x -> x.put(corner[0], corner[1], 6));
            Bounds.answers(4, "what was there", 6, full, x -> x.put(corner[0], corner[1], 0));
            Bounds.answers(4, "the same again", 6, full, x -> x.put(corner[0], corner[1], 6));
            Bounds.answers(6, "what is there", 6, full, x -> x.get(corner[0], corner[1]));
            for (int[] other : corners) {
                Bounds.answers(4, "only there", other == corner ? 6 : 0, full,
                        x -> x.get(other[0], other[1]));
            }
        }
    }

    // 5: each number is taken modulo p, also if it is below 0.
    private static void fill() {
        for (int field = 0; field < 8; field++) {
            int p = PRIMES[field];
            int[] given = {Integer.MIN_VALUE, Integer.MAX_VALUE, -1, p, -p, p - 1, -p - 1, p + 1};
            for (int first = 0; first < 8; first++) {
                Veilbourse x = new Veilbourse();
                x.field(field);
                int[] n = new int[8];
                for (int i = 0; i < 8; i++) {
                    n[i] = given[(first + i) % 8];
                }
                int degree = x.fill(3, n[0], n[1], n[2], n[3], n[4], n[5], n[6], n[7]);
                int due = -1;
                for (int i = 0; i < 8; i++) {
                    long rest = ((long) n[i] % p + p) % p;
                    Check.equal("5: " + n[i] + " modulo " + p, (long) x.get(3, i), rest);
                    due = rest != 0 ? i : due;
                }
                Check.equal("5: the degree then", degree, due);
            }
        }
        Bounds.Setting full = Bounds.rows(Bounds.of(1, 2, 3, 4, 5, 6, 1, 2));
        Bounds.answers(5, "multiples of p are 0", -1, full,
                x -> x.fill(0, 7, -7, 14, -14, 0, 70, -700, 7 * 306783378));
        Bounds.answers(5, "the degree 0", 0, full, x -> x.fill(0, -1, 0, 0, 0, 0, 0, 0, 0));
        Bounds.answers(5, "the degree 7", 7, full, x -> x.fill(0, 0, 0, 0, 0, 0, 0, 0, 8));
        Bounds.answers(5, "only that row", "1 2 3 4 5 6 1 2", full, x -> {
            x.fill(1, 0, 0, 0, 0, 0, 0, 0, 0);
            return Bounds.row(x, 0);
        });
    }

    // 7: NONE if all are 0, otherwise 0 to 7.
    private static void degree() {
        Bounds.answers(7, "all are 0", -1, Bounds.in(Scenes::nothing), x -> x.degree(7));
        for (int place = 0; place < 8; place++) {
            int only = place;
            Bounds.answers(7, "only the place " + place, place, x -> x.put(0, only, 6),
                    x -> x.degree(0));
            Bounds.answers(7, "all up to " + place, place, x -> {
                for (int i = 0; i <= only; i++) {
                    x.put(0, i, 1);
                }
            }, x -> x.degree(0));
        }
    }

    // 8: at 0 the first number counts alone, at 1 the sum, at p - 1 with signs by turns.
    private static void value() {
        Bounds.Setting full = Bounds.rows(Bounds.of(3, 6, 6, 6, 6, 6, 6, 6));
        Bounds.answers(8, "at 0", 3, full, x -> x.value(0, 0));
        Bounds.answers(8, "at 1", (3 + 7 * 6) % 7, full, x -> x.value(0, 1));
        Bounds.answers(8, "at 6", (3 + 7 - 6) % 7, full, x -> x.value(0, 6));
        Bounds.answers(8, "of noughts", 0, full, x -> x.value(1, 6));
        Bounds.answers(8, "of the place 7 alone, at 22 of 23", 1, x -> {
            x.field(7);
            x.put(0, 7, 22);
        }, x -> x.value(0, 22));
    }

    // 9: with the greatest numbers the sum goes round.
    private static void inner() {
        for (int field = 0; field < 8; field++) {
            int p = PRIMES[field];
            int asked = field;
            Bounds.Setting full = x -> {
                x.field(asked);
                Bounds.put(x, 7, p - 1, p - 1, p - 1, p - 1, p - 1, p - 1, p - 1, p - 1);
                x.put(0, 7, p - 1);
            };
            Bounds.answers(9, "of a row with itself", 8 % p, full, x -> x.inner(7, 7));
            Bounds.answers(9, "of one place", 1, full, x -> x.inner(0, 7));
            Bounds.answers(9, "of noughts", 0, full, x -> x.inner(7, 3));
        }
    }

    // 10: the least and the greatest factor.
    private static void mix() {
        Bounds.Setting two = Bounds.rows(Bounds.of(0, 6, 3, 1, 0, 0, 0, 6),
                Bounds.of(1, 1, 6, 0, 0, 0, 2, 6));
        Bounds.answers(10, "the factor 0", "0 6 3 1 0 0 0 6", two, x -> {
            x.mix(0, 1, 0, 7);
            return Bounds.row(x, 7);
        });
        Bounds.answers(10, "the factor 6", "6 5 4 1 0 0 5 0", two, x -> {
            x.mix(0, 1, 6, 7);
            return Bounds.row(x, 7);
        });
        Bounds.answers(10, "the sum goes round", "1 0 2 1 0 0 2 5", two, x -> {
            x.mix(0, 1, 1, 7);
            return Bounds.row(x, 7);
        });
        Bounds.answers(10, "the highest vanishes", 6, two, x -> x.mix(0, 1, 6, 7));
        Bounds.answers(10, "all vanish", -1, two, x -> x.mix(0, 0, 6, 7));
        Bounds.answers(10, "the degree 0", 0, Bounds.rows(Bounds.of(1, 1), Bounds.of(0, 6)),
                x -> x.mix(0, 1, 1, 2));
    }

    private static void mixIntoItself() {
        Bounds.Setting two = Bounds.rows(Bounds.of(0, 6, 3, 1, 0, 0, 0, 6),
                Bounds.of(1, 1, 6, 0, 0, 0, 2, 6));
        Bounds.answers(10, "into the first", "2 1 1 1 0 0 4 4; 1 1 6 0 0 0 2 6", two, x -> {
            x.mix(0, 1, 2, 0);
            return Bounds.row(x, 0) + "; " + Bounds.row(x, 1);
        });
        Bounds.answers(10, "into the other", "0 6 3 1 0 0 0 6; 2 1 1 1 0 0 4 4", two, x -> {
            x.mix(0, 1, 2, 1);
            return Bounds.row(x, 0) + "; " + Bounds.row(x, 1);
        });
        Bounds.answers(10, "all three are one", "3 3 4 0 0 0 6 4", two, x -> {
            x.mix(1, 1, 2, 1);
            return Bounds.row(x, 1);
        });
    }

    private static void monomial(Veilbourse x, int row, int degree) {
        Bounds.put(x, row);
        x.put(row, degree, 3);
    }

    // 11: the degree 7 is the last one, 8 the first that is refused.
    private static void times() {
        for (int degree = 0; degree < 8; degree++) {
            int first = degree;
            Bounds.answers(11, "of degree " + first + " and " + (7 - first), 7, x -> {
                monomial(x, 0, first);
                monomial(x, 1, 7 - first);
            }, x -> x.times(0, 1, 2));
        }
        Bounds.Setting high = Bounds.rows(Bounds.of(1, 0, 0, 0, 0, 0, 0, 1));
        Bounds.answers(11, "noughts times degree 7", -1, high, x -> x.times(1, 0, 0));
        Bounds.answers(11, "degree 7 times noughts", -1, high, x -> x.times(0, 1, 0));
        Bounds.answers(11, "noughts times noughts", -1, high, x -> x.times(1, 2, 0));
        Bounds.answers(11, "the row is noughts then", NOUGHTS, high, x -> {
            x.times(0, 1, 0);
            return Bounds.row(x, 0);
        });
    }

    private static void timesTooHigh() {
        for (int degree = 1; degree < 8; degree++) {
            int first = degree;
            Bounds.Setting eight = x -> {
                monomial(x, 0, first);
                monomial(x, 1, 8 - first);
            };
            String what = "of degree " + first + " and " + (8 - first);
            Bounds.refused(11, Check.STATE, what, eight, x -> x.times(0, 1, 2));
            Bounds.refused(11, Check.STATE, what + " into the first", eight,
                    x -> x.times(0, 1, 0));
            Bounds.refused(11, Check.STATE, what + " into the other", eight,
                    x -> x.times(0, 1, 1));
        }
        Bounds.refused(11, Check.STATE, "of degree 7 and 7",
                Bounds.rows(Bounds.of(0, 0, 0, 0, 0, 0, 0, 6)), x -> x.times(0, 0, 0));
        Bounds.refused(11, Check.STATE, "of degree 4 and 4, with itself",
                Bounds.rows(Bounds.of(1, 0, 0, 0, 1)), x -> x.times(0, 0, 1));
    }

    private static void timesIntoItself() {
        Bounds.Setting two = Bounds.rows(Bounds.of(6, 2, 0, 3), Bounds.of(1, 6, 0, 0, 5));
        Bounds.answers(11, "into the first", "6 3 5 3 6 3 0 1; 1 6 0 0 5 0 0 0", two, x -> {
            x.times(0, 1, 0);
            return Bounds.row(x, 0) + "; " + Bounds.row(x, 1);
        });
        Bounds.answers(11, "into the other", "6 2 0 3 0 0 0 0; 6 3 5 3 6 3 0 1", two, x -> {
            x.times(0, 1, 1);
            return Bounds.row(x, 0) + "; " + Bounds.row(x, 1);
        });
        Bounds.answers(11, "all three are one", "1 3 4 1 5 0 2 0", two, x -> {
            x.times(0, 0, 0);
            return Bounds.row(x, 0);
        });
    }

    // 12: a divisor of the degree 0, of the same one, of a higher one and of 7.
    private static void divide() {
        Bounds.Setting three = Bounds.rows(Bounds.of(1, 2, 3, 4), Bounds.of(0),
                Bounds.of(3), Bounds.of(5, 0, 0, 6), Bounds.of(1, 0, 0, 0, 1),
                Bounds.of(0, 0, 0, 0, 0, 0, 0, 2));
        divided(three, 0, 2, "5 3 1 6 0 0 0 0; " + NOUGHTS, -1);
        divided(three, 0, 3, "3 0 0 0 0 0 0 0; 0 2 3 0 0 0 0 0", 2);
        divided(three, 0, 4, NOUGHTS + "; 1 2 3 4 0 0 0 0", 3);
        divided(three, 0, 5, NOUGHTS + "; 1 2 3 4 0 0 0 0", 3);
        divided(three, 1, 2, NOUGHTS + "; " + NOUGHTS, -1);
        divided(three, 1, 5, NOUGHTS + "; " + NOUGHTS, -1);
        divided(three, 5, 5, "1 0 0 0 0 0 0 0; " + NOUGHTS, -1);
        divided(three, 5, 2, "0 0 0 0 0 0 0 3; " + NOUGHTS, -1);
        divided(three, 5, 4, "0 0 0 2 0 0 0 0; 0 0 0 5 0 0 0 0", 3);
        divided(three, 2, 2, "1 0 0 0 0 0 0 0; " + NOUGHTS, -1);
    }

    private static void divided(Bounds.Setting rows, int row, int by, String due, int degree) {
        String what = "row " + row + " by row " + by;
        Bounds.answers(12, what, degree, rows, x -> x.divide(row, by, 6, 7));
        Bounds.answers(12, what, due, rows, x -> {
            x.divide(row, by, 6, 7);
            return Bounds.row(x, 6) + "; " + Bounds.row(x, 7);
        });
    }

    // 12: quotient and rest may be the rows from which they are made.
    private static void divideIntoItself() {
        Bounds.Setting two = Bounds.rows(Bounds.of(1, 2, 3, 4, 5, 6), Bounds.of(2, 0, 3));
        Veilbourse apart = Bounds.made(two);
        int degree = apart.divide(0, 1, 2, 3);
        String quotient = Bounds.row(apart, 2);
        String rest = Bounds.row(apart, 3);
        int[][] wheres = {{0, 1}, {1, 0}, {0, 3}, {3, 0}, {1, 3}, {3, 1}};
        for (int[] where : wheres) {
            String what = "into " + where[0] + " and " + where[1];
            Bounds.answers(12, what, quotient + "; " + rest, two, x -> {
                x.divide(0, 1, where[0], where[1]);
                return Bounds.row(x, where[0]) + "; " + Bounds.row(x, where[1]);
            });
            Bounds.answers(12, what, degree, two, x -> x.divide(0, 1, where[0], where[1]));
        }
        Bounds.answers(12, "by itself into itself", "1 0 0 0 0 0 0 0; " + NOUGHTS, two, x -> {
            x.divide(0, 0, 0, 1);
            return Bounds.row(x, 0) + "; " + Bounds.row(x, 1);
        });
        Bounds.answers(12, "by itself, the rest in itself", NOUGHTS + "; 1 0 0 0 0 0 0 0", two,
                x -> {
                    x.divide(0, 0, 1, 0);
                    return Bounds.row(x, 0) + "; " + Bounds.row(x, 1);
                });
    }

    private static void divideRefused() {
        Bounds.Setting two = Bounds.rows(Bounds.of(1, 2, 3, 4), Bounds.of(1, 1));
        Bounds.refused(12, Check.ARGUMENT, "quotient and rest are one", two,
                x -> x.divide(0, 1, 2, 2));
        Bounds.refused(12, Check.ARGUMENT, "all are one", two, x -> x.divide(0, 0, 0, 0));
        Bounds.refused(12, Check.ARITHMETIC, "by noughts", two, x -> x.divide(0, 3, 4, 5));
        Bounds.refused(12, Check.ARITHMETIC, "noughts by noughts", two,
                x -> x.divide(3, 3, 4, 5));
        Bounds.refused(12, Check.ARITHMETIC, "by noughts, into them", two,
                x -> x.divide(0, 3, 3, 0));
        Bounds.first(12, Check.ARGUMENT, Check.ARITHMETIC, "into one, by noughts", two,
                x -> x.divide(0, 3, 2, 2));
        Bounds.first(12, Check.INDEX, Check.ARGUMENT, "into one that is none", two,
                x -> x.divide(0, 1, 8, 8));
        Bounds.first(12, Check.INDEX, Check.ARGUMENT, "into one, by none", two,
                x -> x.divide(0, -1, 2, 2));
        Bounds.first(12, Check.INDEX, Check.ARGUMENT, "none into one", two,
                x -> x.divide(8, 1, 2, 2));
        Bounds.first(12, Check.INDEX, Check.ARITHMETIC, "none by noughts", two,
                x -> x.divide(-1, 3, 4, 5));
        Bounds.first(12, Check.INDEX, Check.ARITHMETIC, "by noughts, rest none", two,
                x -> x.divide(0, 3, 4, 8));
    }

    private static final int[] COUNTED = {0, 1, 2, 3, 4, 5, 6, 7};

    // 13: many from 1 to 8.
    private static void through() {
        Bounds.Setting eleven = x -> {
            x.field(3);
            Bounds.put(x, COUNTED, Bounds.of(0, 1, 8, 5, 9, 4, 7, 2));
        };
        for (int many = 1; many < 9; many++) {
            int asked = many;
            // The values are those of x * x * x; below the degree 3 only the values are known.
            Bounds.answers(13, "through " + many, true, eleven, x -> {
                int degree = x.through(0, 1, asked, 2);
                boolean holds = degree == x.degree(2) && degree < asked;
                for (int i = 0; i < asked; i++) {
                    holds &= x.value(2, i) == x.get(1, i);
                }
                return holds;
            });
        }
        for (int many = 4; many < 9; many++) {
            int asked = many;
            Bounds.answers(13, "x * x * x through " + many, 3, eleven,
                    x -> x.through(0, 1, asked, 2));
        }
        Bounds.answers(13, "through noughts", -1, eleven, x -> x.through(0, 5, 8, 2));
        Bounds.answers(13, "through the first alone, 0", -1, eleven, x -> x.through(0, 1, 1, 2));
        Bounds.answers(13, "as many points as numbers", 2, Bounds.in(0, h -> {
            h.call("fill", 0, 0, 1, 2, 0, 0, 0, 0, 0);
            h.call("fill", 1, 0, 1, 1, 0, 0, 0, 0, 0);
        }), x -> x.through(0, 1, 3, 2));
        Bounds.answers(13, "the same points behind many", 1,
                Bounds.rows(Bounds.of(3, 4, 3, 3, 3, 3, 3, 3), Bounds.of(1, 2, 6)),
                x -> x.through(0, 1, 2, 2));
    }

    private static void throughIntoItself() {
        Bounds.Setting eleven = x -> {
            x.field(3);
            Bounds.put(x, COUNTED, Bounds.of(0, 1, 8, 5, 9, 4, 7, 2));
        };
        Bounds.answers(13, "into the points", "0 0 0 1 0 0 0 0; 0 1 8 5 9 4 7 2", eleven, x -> {
            x.through(0, 1, 8, 0);
            return Bounds.row(x, 0) + "; " + Bounds.row(x, 1);
        });
        Bounds.answers(13, "into the values", "0 1 2 3 4 5 6 7; 0 0 0 1 0 0 0 0", eleven, x -> {
            x.through(0, 1, 8, 1);
            return Bounds.row(x, 0) + "; " + Bounds.row(x, 1);
        });
        Bounds.answers(13, "all three are one", "0 1 0 0 0 0 0 0", eleven, x -> {
            x.through(0, 0, 8, 0);
            return Bounds.row(x, 0);
        });
    }

    private static void throughRefused() {
        Bounds.Setting seven = Bounds.rows(COUNTED_BELOW_SEVEN, Bounds.of(3, 1, 3),
                Bounds.of(6, 0, 1, 2, 3, 4, 5, 6));
        int[] wrong = {0, 9, -1, Integer.MIN_VALUE, Integer.MAX_VALUE};
        for (int many : wrong) {
            Bounds.refused(13, Check.ARGUMENT, "many " + many, seven,
                    x -> x.through(0, 1, many, 3));
            Bounds.first(13, Check.INDEX, Check.ARGUMENT, "no points, many " + many, seven,
                    x -> x.through(8, 1, many, 3));
            Bounds.first(13, Check.INDEX, Check.ARGUMENT, "no values, many " + many, seven,
                    x -> x.through(0, -1, many, 3));
            Bounds.first(13, Check.INDEX, Check.ARGUMENT, "to none, many " + many, seven,
                    x -> x.through(0, 1, many, 8));
        }
        Bounds.answers(13, "seven of seven numbers", -1, seven, x -> x.through(0, 3, 7, 4));
        Bounds.refused(13, Check.ARGUMENT, "eight of seven numbers", seven,
                x -> x.through(0, 3, 8, 4));
        Bounds.refused(13, Check.ARGUMENT, "the first and the last are the same", seven,
                x -> x.through(2, 1, 8, 3));
        Bounds.answers(13, "without the last", true, seven, x -> x.through(2, 1, 7, 3) > -1);
        Bounds.refused(13, Check.ARGUMENT, "0 and 2 are the same", seven,
                x -> x.through(1, 0, 3, 3));
        Bounds.answers(13, "only 0 and 1", 1, seven, x -> x.through(1, 0, 2, 3));
        Bounds.refused(13, Check.ARGUMENT, "into the points", seven, x -> x.through(1, 0, 3, 1));
        Bounds.first(13, Check.INDEX, Check.ARGUMENT, "points the same, no values", seven,
                x -> x.through(1, 8, 3, 3));
        Bounds.first(13, Check.INDEX, Check.ARGUMENT, "points the same, to none", seven,
                x -> x.through(1, 0, 3, -1));
        Bounds.refused(13, Check.ARGUMENT, "four of three numbers", Bounds.in(0, Scenes::rows),
                x -> x.through(3, 1, 4, 2));
        Bounds.answers(13, "three of three numbers", true, Bounds.in(0, Scenes::rows),
                x -> x.through(3, 1, 3, 2) < 3);
    }

    private static final int[] COUNTED_BELOW_SEVEN = {0, 1, 2, 3, 4, 5, 6, 0};

    // 14: 0 to the power of 0 is 1; 1; and p - 1.
    private static void powers() {
        Bounds.Setting full = Bounds.rows(Bounds.of(6, 6, 6, 6, 6, 6, 6, 6));
        powersAre(full, 0, "1 0 0 0 0 0 0 0", 0);
        powersAre(full, 1, "1 1 1 1 1 1 1 1", 7);
        powersAre(full, 6, "1 6 1 6 1 6 1 6", 7);
        powersAre(Bounds.in(7, Scenes::rows), 22, "1 22 1 22 1 22 1 22", 7);
        powersAre(Bounds.in(0, Scenes::rows), 2, "1 2 1 2 1 2 1 2", 7);
    }

    private static void powersAre(Bounds.Setting setting, int n, String due, int degree) {
        Bounds.answers(14, "powers of " + n, due, setting, x -> {
            x.powers(n, 0);
            return Bounds.row(x, 0);
        });
        Bounds.answers(14, "the degree of " + n, degree, setting, x -> x.powers(n, 0));
    }

    // 15: the same numbers, each as often, in whatever order.
    private static void isMixed() {
        Bounds.Setting rows = Bounds.rows(Bounds.of(1, 2, 3, 4, 5, 6, 0, 0),
                Bounds.of(0, 0, 6, 5, 4, 3, 2, 1), Bounds.of(0, 1, 6, 5, 4, 3, 2, 1),
                Bounds.of(1, 2, 3, 4, 5, 6, 0, 1));
        Bounds.answers(15, "a row with itself", true, rows, x -> x.isMixed(3, 3));
        Bounds.answers(15, "noughts with noughts", true, rows, x -> x.isMixed(6, 7));
        Bounds.answers(15, "the other way round", true, rows, x -> x.isMixed(0, 1));
        Bounds.answers(15, "the same numbers, not as often", false, rows, x -> x.isMixed(1, 2));
        Bounds.answers(15, "not as often, asked the other way", false, rows,
                x -> x.isMixed(2, 1));
        Bounds.answers(15, "the same ones, twice others", true, rows, x -> x.isMixed(2, 3));
        Bounds.answers(15, "with noughts alone", false, rows, x -> x.isMixed(7, 0));
        for (int place = 0; place < 8; place++) {
            int other = place;
            Bounds.Setting unlike = x -> {
                x.fill(0, 1, 1, 1, 1, 1, 1, 1, 1);
                x.fill(1, 1, 1, 1, 1, 1, 1, 1, 1);
                x.put(0, other, 5);
                x.put(1, other, 6);
            };
            Bounds.answers(15, "unlike at " + place + " alone", false, unlike,
                    x -> x.isMixed(0, 1));
            Bounds.answers(15, "alike at unlike places", true, unlike, x -> {
                x.put(1, other, 1);
                x.put(1, 7 - other, 5);
                return x.isMixed(0, 1);
            });
        }
    }

    // 16: none, one short of all eight factors, and all.
    private static void meets() {
        Bounds.Setting three = Bounds.in(0, h -> {
            h.call("fill", 1, 1, 1, 1, 1, 2, 2, 2, 2);
            h.call("fill", 2, 0, 1, 2, 0, 0, 0, 0, 0);
            h.call("fill", 3, 0, 1, 2, 1, 1, 1, 1, 1);
        });
        Bounds.answers(16, "none", 0, three, x -> x.meets(0, 1));
        Bounds.answers(16, "all of three, although not mixed", 3, three, x -> x.meets(2, 3));
        Bounds.answers(16, "a row with itself", 3, three, x -> x.meets(1, 1));
        Bounds.Setting greatest = Bounds.in(7, h -> {
            h.call("fill", 0, 0, 1, 2, 3, 4, 5, 6, 0);
            h.call("fill", 1, 0, 1, 2, 3, 4, 5, 6, 3);
            h.call("fill", 2, 3, 6, 5, 4, 3, 2, 1, 0);
        });
        Bounds.answers(16, "seven, the most of rows that are not mixed", 7, greatest,
                x -> x.meets(0, 1));
        Bounds.answers(16, "all of mixed rows", 23, greatest, x -> x.meets(1, 2));
    }

    // "An object is used for at most 512 calls": the last of them answers as the first.
    private static void manyCalls() {
        Veilbourse x = new Veilbourse();
        for (int call = 1; call <= 511; call++) {
            Check.equal("call " + call, x.put(7, 7, call % 7), (call - 1) % 7);
        }
        Check.equal("call 512", x.get(7, 7), 511 % 7);
    }
}
