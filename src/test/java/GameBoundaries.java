/** The boundary cases of the promises 58 to 65: sums by rounds. */
final class GameBoundaries {

    private static final int[] PRIMES = {3, 5, 7, 11, 13, 17, 19, 23};

    private GameBoundaries() {
    }

    static void all() {
        total();
        extendAtCorners();
        extend();
        play();
        playCopies();
        playAnew();
        send();
        sendRefused();
        sendMeets();
        draw();
        drawRefused();
        honest();
        honestRefused();
        isWon();
        isWonByRounds();
        chances();
        bestOfAllWays();
    }

    // 58: with the greatest numbers the sum goes round.
    private static void total() {
        for (int field = 0; field < 8; field++) {
            int taken = field;
            int p = PRIMES[field];
            Bounds.Setting full = x -> {
                x.field(taken);
                x.fill(7, -1, -1, -1, -1, -1, -1, -1, -1);
                x.put(6, 7, p - 1);
                x.put(5, 0, p - 1);
                x.put(5, 7, 1);
            };
            Bounds.answers(58, "of the greatest", Math.floorMod(-8, p), full, x -> x.total(7));
            Bounds.answers(58, "of the last place", p - 1, full, x -> x.total(6));
            Bounds.answers(58, "of p", 0, full, x -> x.total(5));
            Bounds.answers(58, "of noughts", 0, full, x -> x.total(0));
        }
    }

    private static Bounds.Setting counted() {
        return Bounds.rows(Bounds.of(1, 2, 3, 4, 5, 6, 0, 1));
    }

    // 59: at noughts and ones the numbers themselves.
    private static void extendAtCorners() {
        for (int place = 0; place < 8; place++) {
            int asked = place;
            Bounds.answers(59, "at the corner " + place, (place + 1) % 7 == 0 ? 0
                            : place == 7 ? 1 : place + 1, counted(),
                    x -> x.extend(0, asked / 4, asked / 2 % 2, asked % 2));
        }
    }

    // 59: linear in each; p - 1 is -1.
    private static void extend() {
        for (int field = 0; field < 8; field++) {
            int taken = field;
            int p = PRIMES[field];
            int[] ends = {0, 1, 2, p - 1};
            for (int n = 0; n < 64; n++) {
                int x0 = ends[n / 16];
                int y0 = ends[n / 4 % 4];
                int z0 = ends[n % 4];
                long due = 0;
                for (int i = 0; i < 8; i++) {
                    long weight = (i / 4 == 1 ? x0 : 1 - x0) * (i / 2 % 2 == 1 ? y0 : 1 - y0);
                    due += weight * (i % 2 == 1 ? z0 : 1 - z0) * ((i * i + 2) % p);
                }
                Bounds.answers(59, "at " + x0 + " " + y0 + " " + z0 + " of " + p,
                        (int) Math.floorMod(due, (long) p), x -> {
                            x.field(taken);
                            x.fill(0, 2, 3, 6, 11, 18, 27, 38, 51);
                        }, x -> x.extend(0, x0, y0, z0));
            }
        }
    }

    /** How many of the challenges of so many rounds let a best prover win with a wrong claim. */
    private static int wrong(int p, int rounds) {
        return power(p, rounds) - power(p - 1, rounds);
    }

    private static int power(int n, int exponent) {
        int product = 1;
        for (int i = 0; i < exponent; i++) {
            product *= n;
        }
        return product;
    }

    // 60: each claim, in each field; all challenges for one of them, and just as many otherwise.
    private static void play() {
        for (int field = 0; field < 8; field++) {
            int taken = field;
            int p = PRIMES[field];
            for (int claim = 0; claim < p; claim++) {
                int told = claim;
                int due = claim == p - 1 ? p * p * p : wrong(p, 3);
                Bounds.answers(60, "the claim " + claim + " of " + p, due, x -> {
                    x.field(taken);
                    x.put(7, 3, p - 1);
                }, x -> x.play(7, told));
            }
        }
        Bounds.answers(60, "noughts", 343, Bounds.in(Scenes::nothing), x -> x.play(0, 0));
    }

    private static void playCopies() {
        Bounds.answers(60, "about a copy, in the first round", 32 * 3 + 5, counted(), x -> {
            x.play(0, 1);
            x.fill(0, 6, 6, 6, 6, 6, 6, 6, 6);
            return x.honest();
        });
        Bounds.answers(60, "the row stays", "1 2 3 4 5 6 0 1", counted(), x -> {
            x.play(0, 1);
            x.send(3, 5);
            x.draw(4);
            return Bounds.row(x, 0);
        });
        Bounds.answers(60, "about a copy, at the end", true, counted(), x -> {
            x.play(0, 1);
            x.fill(0, 6, 6, 6, 6, 6, 6, 6, 6);
            for (int round = 0; round < 3; round++) {
                int right = x.honest();
                x.send(right / 32, right % 32);
                x.draw(6);
            }
            return x.isWon();
        });
    }

    // 60: anew at each stage.
    private static void playAnew() {
        Scenes.Scene[] stages = {Scenes::rows, Scenes::played, Scenes::sent, Scenes::drawn,
            Scenes::lastSent, Scenes::over};
        for (Scenes.Scene stage : stages) {
            Bounds.Setting anew = x -> {
                Bounds.in(stage).set(x);
                x.play(4, 3);
            };
            Bounds.answers(60, "how many", wrong(7, 3), anew, x -> x.chances());
            Bounds.answers(60, "the first round", 32 * 2, anew, x -> x.honest());
            Bounds.answers(60, "the new claim", 49 + 6 * wrong(7, 2), anew, x -> x.send(3, 0));
            Bounds.answers(60, "nothing is sent", Check.STATE, anew,
                    x -> Probe.outcome(() -> x.draw(0)));
            Bounds.answers(60, "not won", false, anew, x -> x.isWon());
        }
    }

    // 61: both together are the claim modulo p.
    private static void send() {
        for (int zero = 0; zero < 7; zero++) {
            int at = zero;
            int one = (8 - zero) % 7;
            Bounds.answers(61, zero + " and " + one, true, counted(), x -> {
                x.play(0, 1);
                return x.send(at, one) == x.chances();
            });
            for (int other = 0; other < 7; other++) {
                int wrong = other;
                if (other != one) {
                    Bounds.refused(61, Check.ARITHMETIC, zero + " and " + other, x -> {
                        counted().set(x);
                        x.play(0, 1);
                    }, x -> x.send(at, wrong));
                }
            }
        }
        Bounds.answers(61, "the greatest of 23", wrong(23, 3), x -> {
            x.field(7);
            x.play(0, 21);
        }, x -> Math.max(x.send(22, 22), wrong(23, 3)));
    }

    private static void sendRefused() {
        Bounds.Setting played = x -> {
            counted().set(x);
            x.play(0, 1);
        };
        Bounds.first(61, Check.ARGUMENT, Check.ARITHMETIC, "7 and 2", played, x -> x.send(7, 2));
        Bounds.first(61, Check.ARGUMENT, Check.ARITHMETIC, "0 and -1", played, x -> x.send(0, -1));
        Bounds.refused(61, Check.ARGUMENT, "7 and 1, which are the claim", played,
                x -> x.send(7, 1));
        Bounds.refused(61, Check.ARGUMENT, "2 and -1, which are the claim", played,
                x -> x.send(2, -1));
        Bounds.refused(61, Check.ARGUMENT, "0 and 8, which are the claim", played,
                x -> x.send(0, 8));
        Scenes.Scene[] others = {Scenes::rows, Scenes::sent, Scenes::lastSent, Scenes::over};
        for (Scenes.Scene other : others) {
            for (int n = 0; n < 7; n++) {
                int one = n;
                Bounds.first(61, Check.STATE, Check.ARITHMETIC, "0 and " + n, Bounds.in(other),
                        x -> x.send(0, one));
            }
        }
    }

    // 61: a wrong line meets the right one at one challenge at most.
    private static void sendMeets() {
        Bounds.Setting right = x -> {
            counted().set(x);
            x.play(0, 1);
        };
        Bounds.answers(61, "the right line", 343, right, x -> x.send(3, 5));
        for (int zero = 0; zero < 7; zero++) {
            if (zero != 3) {
                int at = zero;
                // The difference is n and -n, which is 0 at the half of 1, 4.
                Bounds.answers(61, "a wrong line", 49 + 6 * wrong(7, 2), right,
                        x -> x.send(at, (8 - at) % 7));
            }
        }
        Bounds.Setting other = x -> {
            counted().set(x);
            x.play(0, 3);
        };
        for (int zero = 0; zero < 7; zero++) {
            int at = zero;
            // The difference is n and 2 - n: with 1 and 1 it is never 0.
            int due = zero == 4 ? 7 * wrong(7, 2) : 49 + 6 * wrong(7, 2);
            Bounds.answers(61, zero + " with a wrong claim", due, other,
                    x -> x.send(at, Math.floorMod(3 - at, 7)));
        }
    }

    // 62: at 0 and 1 the values themselves, at p - 1 beyond them.
    private static void draw() {
        Bounds.Setting sent = x -> {
            counted().set(x);
            x.play(0, 1);
            x.send(3, 5);
        };
        int[] due = {3, 5, 0, 2, 4, 6, 1};
        for (int c = 0; c < 7; c++) {
            int told = c;
            Bounds.answers(62, "at " + c, due[c], sent, x -> x.draw(told));
            Bounds.answers(62, "the claim is that", true, sent, x -> {
                int claim = x.draw(told);
                return x.send(0, claim) > 0;
            });
        }
        Bounds.answers(62, "22 of 23", Math.floorMod(22 + 22 * -22, 23), x -> {
            x.field(7);
            x.play(0, 22);
            x.send(22, 0);
        }, x -> x.draw(22));
    }

    private static void drawRefused() {
        Bounds.refused(62, Check.STATE, "no game", Bounds.in(Scenes::nothing), x -> x.draw(0));
        Bounds.refused(62, Check.STATE, "nothing sent in the first round",
                Bounds.in(Scenes::played), x -> x.draw(0));
        Bounds.refused(62, Check.STATE, "nothing sent in the second round",
                Bounds.in(Scenes::drawn), x -> x.draw(0));
        Bounds.refused(62, Check.STATE, "nothing sent in the third round", x -> {
            Bounds.in(Scenes::drawn).set(x);
            int right = x.honest();
            x.send(right / 32, right % 32);
            x.draw(0);
        }, x -> x.draw(0));
        Bounds.refused(62, Check.STATE, "all rounds are over", Bounds.in(Scenes::over),
                x -> x.draw(0));
        Bounds.first(62, Check.ARGUMENT, Check.STATE, "no game, no number",
                Bounds.in(Scenes::nothing), x -> x.draw(7));
    }

    // 63: the sums with 0 and with 1 in each round.
    private static void honest() {
        int[] second = {32 * 3, 32 * 4 + 1, 32 * 5 + 2, 32 * 6 + 3, 4, 32 * 1 + 5, 32 * 2 + 6};
        for (int c = 0; c < 7; c++) {
            int told = c;
            // The lower half is 1 2 3 4, the upper less the lower one 4 4 -3 -3.
            int zero = Math.floorMod(3 + 8 * c, 7);
            int one = Math.floorMod(7 - 6 * c, 7);
            Check.equal("63: by hand", 32 * zero + one, second[c]);
            Bounds.answers(63, "in the second round", second[c], x -> {
                counted().set(x);
                x.play(0, 1);
                x.send(3, 5);
                x.draw(told);
            }, x -> x.honest());
        }
        for (int field = 0; field < 8; field++) {
            int taken = field;
            int p = PRIMES[field];
            Bounds.answers(63, "the greatest of " + p, 33 * (p - 1), x -> {
                x.field(taken);
                x.put(0, 3, p - 1);
                x.put(0, 4, p - 1);
                x.play(0, 0);
            }, x -> x.honest());
            Bounds.answers(63, "of noughts", 0, x -> {
                x.field(taken);
                x.play(0, p - 1);
            }, x -> x.honest());
        }
    }

    private static void honestRefused() {
        Scenes.Scene[] others = {Scenes::nothing, Scenes::sent, Scenes::lastSent, Scenes::over};
        for (Scenes.Scene other : others) {
            Bounds.refused(63, Check.STATE, "honest", Bounds.in(other), x -> x.honest());
        }
        Bounds.answers(63, "it changes nothing", true, Bounds.in(Scenes::drawn),
                x -> x.honest() == x.honest());
    }

    // 64: only when the three rounds are over.
    private static void isWon() {
        Scenes.Scene[] before = {Scenes::played, Scenes::sent, Scenes::drawn, Scenes::lastSent};
        for (Scenes.Scene scene : before) {
            for (int field = 0; field < 8; field++) {
                Bounds.answers(64, "not yet", false, Bounds.in(field, scene), x -> x.isWon());
            }
        }
        for (int field = 0; field < 8; field++) {
            Bounds.answers(64, "won", true, Bounds.in(field, Scenes::over), x -> x.isWon());
        }
        Bounds.refused(64, Check.STATE, "no game", Bounds.in(Scenes::nothing), x -> x.isWon());
        Bounds.refused(64, Check.STATE, "no game in another field", x -> {
            Bounds.in(Scenes::over).set(x);
            x.field(2);
        }, x -> x.isWon());
    }

    // 64: a claim that is 0 as the rest, but of unlike challenges.
    private static void isWonByRounds() {
        for (int last = 0; last < 7; last++) {
            int c = last;
            // The row is noughts; what is sent at last is 0 at the challenge 1 alone.
            Bounds.Setting over = x -> {
                x.play(0, 1);
                x.send(1, 0);
                x.draw(0);
                x.send(1, 0);
                x.draw(0);
                x.send(1, 0);
                x.draw(c);
            };
            Bounds.answers(64, "with the last challenge " + c, c == 1, over, x -> x.isWon());
            Bounds.answers(65, "1 or 0 then", c == 1 ? 1 : 0, over, x -> x.chances());
        }
    }

    // 65: at each stage, right and wrong.
    private static void chances() {
        for (int field = 0; field < 8; field++) {
            int p = PRIMES[field];
            Scenes.Scene[] stages = {Scenes::played, Scenes::sent, Scenes::drawn,
                Scenes::lastSent, Scenes::over};
            int[] rounds = {3, 3, 2, 1, 0};
            for (int i = 0; i < 5; i++) {
                Bounds.answers(65, "right, at the stage " + i, power(p, rounds[i]),
                        Bounds.in(field, stages[i]), x -> x.chances());
            }
            int taken = field;
            // The lines that end with 0 are 0 at 1 alone, the one with the half of 1 twice nowhere.
            int half = (p + 1) / 2;
            int[] due = {wrong(p, 3), wrong(p, 3), wrong(p, 2), p, 1, 1};
            for (int i = 0; i < 6; i++) {
                int stage = i;
                Bounds.answers(65, "wrong, at the stage " + i, due[i], x -> {
                    x.field(taken);
                    x.play(0, 1);
                    leadWrongly(x, stage, half);
                }, x -> x.chances());
            }
        }
        Bounds.refused(65, Check.STATE, "no game", Bounds.in(Scenes::nothing), x -> x.chances());
        Bounds.answers(65, "right again after a meeting", 49, x -> {
            x.play(0, 1);
            x.send(1, 0);
            x.draw(1);
        }, x -> x.chances());
    }

    /** The claim is 1 about noughts, and stays wrong. */
    private static void leadWrongly(Veilbourse x, int stages, int half) {
        if (stages > 0) {
            x.send(1, 0);
        }
        if (stages > 1) {
            x.draw(0);
        }
        if (stages > 2) {
            x.send(half, half);
        }
        if (stages > 3) {
            x.draw(2);
        }
        if (stages > 4) {
            x.send(half, 0);
        }
    }

    // (6): what chances() tells is what the better of all ways to send leaves.
    private static void bestOfAllWays() {
        for (int field = 0; field < 8; field++) {
            int taken = field;
            int p = PRIMES[field];
            for (int claim = 0; claim < 3; claim++) {
                int told = claim;
                int best = 0;
                for (int zero = 0; zero < p; zero++) {
                    Veilbourse x = new Veilbourse();
                    x.field(taken);
                    x.fill(0, 1, 2, 0, 1, 0, 1, 2, 1);
                    x.play(0, told);
                    best = Math.max(best, x.send(zero, Math.floorMod(told - zero, p)));
                }
                Bounds.answers(65, "the better of all ways", best, x -> {
                    x.field(taken);
                    x.fill(0, 1, 2, 0, 1, 0, 1, 2, 1);
                }, x -> x.play(0, told));
            }
        }
    }
}
