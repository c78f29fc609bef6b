/** The boundary cases of the promises 29 to 46: runs, folding and batches. */
final class RunBoundaries {

    private static final int[] PRIMES = {3, 5, 7, 11, 13, 17, 19, 23};
    /** The powers of B in the first field; H is B itself. */
    private static final int[] M = {1, 16, 24, 7, 25, 23, 20};
    private static final Scenes.Scene[] STAGES = {Scenes::rows, Scenes::stated, Scenes::opened,
        Scenes::said, Scenes::dared, Scenes::asked, Scenes::saidAndDared, Scenes::answered,
        Scenes::toldWrongly, Scenes::simulated};

    private RunBoundaries() {
    }

    static void all() {
        stateAnew();
        stateCopies();
        open();
        openAfterState();
        say();
        dare();
        ask();
        reply();
        tell();
        isAccepted();
        isAcceptedByOne();
        simulate();
        extract();
        extractRefused();
        extractFromUnlikeStatements();
        maskFor();
        maskForRefused();
        fits();
        challenges();
        challengesAtEachStage();
        told();
        form();
        fold();
        foldInto();
        foldRefused();
        batch();
        batchInto();
        batchRefused();
        factors();
        factorsRefused();
    }

    private static String told(Veilbourse x, int run) {
        StringBuilder told = new StringBuilder();
        for (int what = 0; what < 7; what++) {
            told.append(what == 0 ? "" : " ").append(x.told(run, what));
        }
        return told.toString();
    }

    private static String form(Veilbourse x, int run, boolean isAnswer) {
        StringBuilder told = new StringBuilder();
        for (int place = 0; place < 8; place++) {
            told.append(place == 0 ? "" : " ").append(x.form(run, place, isAnswer));
        }
        return told.toString();
    }

    // 29: anew at each stage.
    private static void stateAnew() {
        for (Scenes.Scene stage : STAGES) {
            Bounds.Setting setting = Bounds.in(stage);
            Bounds.answers(29, "y", 24, setting, x -> x.state(3, 24, 7, 6));
            Bounds.answers(29, "nothing else is left", "24 6 -1 -1 -1 -1 -1", setting, x -> {
                x.state(3, 24, 7, 6);
                return told(x, 3);
            });
            Bounds.answers(29, "the form", "1 0 0 0 0 0 0 0", setting, x -> {
                x.state(3, 24, 7, 6);
                return form(x, 3, false);
            });
            Bounds.answers(29, "the other run stays", true, setting, x -> {
                String before = told(x, 2);
                x.state(3, 24, 7, 6);
                return before.equals(told(x, 2));
            });
            Bounds.answers(29, "the mask is forgotten", Check.STATE, setting, x -> {
                x.state(3, 24, 7, 6);
                x.say(3, 1, 0);
                x.dare(3, 1);
                return Probe.outcome(() -> x.reply(3, 1, 2));
            });
            Bounds.answers(29, "the answer is forgotten", Check.STATE, setting, x -> {
                x.state(3, 24, 7, 6);
                return Probe.outcome(() -> x.form(3, 0, true));
            });
        }
    }

    private static void stateCopies() {
        Bounds.Setting rows = Bounds.in(Scenes::rows);
        Bounds.answers(29, "the form is a copy", "1 0 0 0 0 0 0 0", rows, x -> {
            x.state(0, 1, 7, 0);
            x.fill(7, 6, 6, 6, 6, 6, 6, 6, 6);
            return form(x, 0, false);
        });
        Bounds.answers(29, "the least numbers", "1 0 -1 -1 -1 -1 -1", rows, x -> {
            x.state(0, 1, 0, 0);
            return told(x, 0);
        });
    }

    // 30: A and w of the least and of the greatest mask.
    private static void open() {
        Bounds.Setting stated = x -> {
            Bounds.put(x, Bounds.of(6, 6, 6, 6, 6, 6, 6, 6));
            x.state(0, 16, 0, 3);
        };
        Bounds.answers(30, "a mask of noughts", "16 3 1 0 -1 -1", stated, x -> {
            x.open(0, 7, 0);
            return withoutT(x);
        });
        // The exponents are 6 times 14, and 6; the inner product is 8 times 36.
        Bounds.answers(30, "the form as mask", "16 3 " + M[90 % 7] + " 1 -1 -1", stated, x -> {
            x.open(0, 0, 6);
            return withoutT(x);
        });
        Bounds.answers(30, "A", M[6], stated, x -> x.open(0, 7, 6));
    }

    private static String withoutT(Veilbourse x) {
        String all = told(x, 0);
        return all.substring(0, all.lastIndexOf(' '));
    }

    private static void openAfterState() {
        for (Scenes.Scene stage : STAGES) {
            Bounds.answers(30, "in a run begun anew", true, Bounds.in(stage), x -> {
                x.state(1, 16, 0, 3);
                return x.open(1, 2, 1) == x.told(1, 2);
            });
        }
        Bounds.answers(30, "the mask is kept as it was", "1 0 2 2 0 1 0 0",
                Bounds.in(Scenes::opened), x -> {
                    x.fill(2, 6, 6, 6, 6, 6, 6, 6, 6);
                    x.dare(1, 0);
                    x.reply(1, 1, 2);
                    return form(x, 1, true);
                });
    }

    // 31: as it is told.
    private static void say() {
        Bounds.Setting stated = Bounds.in(Scenes::stated);
        Bounds.answers(31, "A", 1, stated, x -> x.say(0, 1, 6));
        Bounds.answers(31, "w", 6, stated, x -> {
            x.say(0, 1, 6);
            return x.told(0, 3);
        });
        Bounds.answers(31, "no challenge yet", -1, stated, x -> {
            x.say(0, 20, 0);
            return x.told(0, 4);
        });
        Bounds.answers(31, "there is no mask", Check.STATE, Bounds.in(Scenes::saidAndDared),
                x -> Probe.outcome(() -> x.reply(2, 1, 2)));
    }

    // 32: the least and the greatest challenge.
    private static void dare() {
        for (int c = 0; c < 7; c += 6) {
            int told = c;
            Bounds.answers(32, "c", c, Bounds.in(Scenes::said), x -> x.dare(0, told));
            Bounds.answers(32, "c is told", c, Bounds.in(Scenes::opened), x -> {
                x.dare(0, told);
                return x.told(0, 4);
            });
            Bounds.answers(32, "no answer yet", -1, Bounds.in(Scenes::opened), x -> {
                x.dare(0, told);
                return x.told(0, 5);
            });
        }
    }

    private static int sealed(int a, int b) {
        return (a * a * a + 7 * b * b + 5 * a * b + 3 * a + b + 11) % 251;
    }

    private static int transcript(int y, int number, int v, int a, int w) {
        int seal = sealed(7, y);
        for (int i = 0; i < 8; i++) {
            seal = sealed(seal, number);
        }
        return sealed(sealed(sealed(seal, v), a), w);
    }

    // 33: of the least and of the greatest numbers.
    private static void ask() {
        for (int field = 0; field < 8; field++) {
            int taken = field;
            int p = PRIMES[field];
            for (int n = 0; n < p; n += p - 1) {
                int number = n;
                Bounds.Setting said = x -> {
                    x.field(taken);
                    x.fill(0, number, number, number, number, number, number, number, number);
                    x.state(3, lastMember(x), 0, number);
                    x.say(3, lastMember(x), number);
                };
                int y = lastMember(Bounds.made(said));
                int due = transcript(y, n, n, y, n);
                Bounds.answers(33, "c in the field " + p, due % p, said, x -> x.ask(3));
                Bounds.answers(33, "T in the field " + p, due, said, x -> x.told(3, 6));
                Bounds.answers(33, "c is told", due % p, said, x -> {
                    x.ask(3);
                    return x.told(3, 4);
                });
            }
        }
        Bounds.answers(33, "of noughts", transcript(1, 0, 0, 1, 0) % 7, x -> {
            x.state(0, 1, 0, 0);
            x.open(0, 0, 0);
        }, x -> x.ask(0));
    }

    private static int lastMember(Veilbourse x) {
        int y = x.modulus() - 1;
        while (!x.isMember(y)) {
            y--;
        }
        return y;
    }

    // 34: with the least and the greatest challenge.
    private static void reply() {
        String[] due = {"1 0 2 2 0 1 0 0", "6 6 0 2 6 1 0 6"};
        for (int i = 0; i < 2; i++) {
            int c = 6 * i;
            Bounds.Setting dared = x -> {
                Bounds.in(Scenes::opened).set(x);
                x.dare(0, c);
            };
            Bounds.answers(34, "t with " + c, (1 + c * 2) % 7, dared, x -> x.reply(0, 1, 2));
            Bounds.answers(34, "t with " + c + " and 0", 1, dared, x -> x.reply(0, 1, 0));
            Bounds.answers(34, "Z with " + c, due[i], dared, x -> {
                x.reply(0, 1, 2);
                return form(x, 0, true);
            });
            Bounds.answers(34, "it is accepted", true, dared, x -> {
                x.reply(0, 1, 2);
                return x.isAccepted(0);
            });
            Bounds.answers(34, "noughts as secret", "1 0 2 2 0 1 0 0", dared, x -> {
                x.fill(1, 0, 0, 0, 0, 0, 0, 0, 0);
                x.reply(0, 1, 2);
                return form(x, 0, true);
            });
        }
        Bounds.answers(34, "after ask", true, Bounds.in(Scenes::asked), x -> {
            x.reply(2, 1, 2);
            return x.isAccepted(2);
        });
        Bounds.answers(34, "Z is a copy", true, Bounds.in(Scenes::answered), x -> {
            String before = form(x, 1, true);
            x.fill(1, 0, 0, 0, 0, 0, 0, 0, 0);
            x.fill(2, 0, 0, 0, 0, 0, 0, 0, 0);
            return before.equals(form(x, 1, true));
        });
        Bounds.refused(34, Check.STATE, "after tell", x -> {
            Bounds.in(Scenes::dared).set(x);
            x.tell(0, 1, 2);
        }, x -> x.reply(0, 1, 2));
    }

    // 35: whoever it is answers, after each kind of first message and challenge.
    private static void tell() {
        Scenes.Scene[] scenes = {Scenes::dared, Scenes::asked, Scenes::saidAndDared};
        for (Scenes.Scene scene : scenes) {
            Bounds.answers(35, "t", 6, Bounds.in(scene), x -> x.tell(0, 6, 6));
            Bounds.answers(35, "t 0", 0, Bounds.in(scene), x -> x.tell(0, 6, 0));
            Bounds.answers(35, "Z", "2 0 0 0 0 0 0 1", Bounds.in(scene), x -> {
                x.tell(0, 6, 6);
                x.fill(6, 5, 5, 5, 5, 5, 5, 5, 5);
                return form(x, 0, true);
            });
        }
        Bounds.refused(35, Check.STATE, "after reply", Bounds.in(Scenes::answered),
                x -> x.tell(0, 1, 2));
    }

    // 36: only with an answer.
    private static void isAccepted() {
        Scenes.Scene[] without = {Scenes::rows, Scenes::stated, Scenes::opened, Scenes::said,
            Scenes::dared, Scenes::asked, Scenes::saidAndDared, Scenes::toldWrongly};
        for (Scenes.Scene scene : without) {
            Bounds.answers(36, "not accepted", false, Bounds.in(scene), x -> x.isAccepted(1));
        }
        Bounds.answers(36, "answered", true, Bounds.in(Scenes::answered), x -> x.isAccepted(3));
        Bounds.answers(36, "simulated", true, Bounds.in(Scenes::simulated),
                x -> x.isAccepted(0));
        // Z and t are 0 in an object that is new: no answer must not count as noughts.
        Bounds.answers(36, "noughts that were not told", false, x -> {
            x.state(0, 1, 0, 0);
            x.say(0, 1, 0);
            x.dare(0, 0);
        }, x -> x.isAccepted(0));
    }

    /** Noughts that are accepted, but for one number that is another one. */
    private static void isAcceptedByOne() {
        int[][] wrong = {{16, 0, 1, 0, 0, 0}, {1, 1, 1, 0, 0, 0}, {1, 0, 16, 0, 0, 0},
            {1, 0, 1, 1, 0, 0}, {1, 0, 1, 0, 1, 0}, {1, 0, 1, 0, 0, 1}, {1, 0, 1, 0, 0, 6}};
        acceptedIs(true, 1, 0, 1, 0, 0, 0);
        for (int[] n : wrong) {
            acceptedIs(false, n[0], n[1], n[2], n[3], n[4], n[5]);
        }
        // A number of Z that is mended by t in the first equation alone.
        acceptedIs(false, 1, 0, 1, 0, 1, 6);
    }

    /** The form is 1 at the place 0, the challenge 1, and Z has its number at the place 0. */
    private static void acceptedIs(boolean due, int y, int v, int a, int w, int z, int t) {
        Bounds.answers(36, "accepted with " + y + v + a + w + z + t, due, x -> {
            Bounds.put(x, Bounds.of(1), Bounds.of(z));
            x.state(0, y, 0, v);
            x.say(0, a, w);
            x.dare(0, 1);
            x.tell(0, 1, t);
        }, x -> x.isAccepted(0));
    }

    // 37: each challenge and t has a first message.
    private static void simulate() {
        for (int c = 0; c < 7; c++) {
            for (int t = 0; t < 7; t += 6) {
                int told = c;
                int answer = t;
                Bounds.Setting stated = x -> {
                    Bounds.put(x, Bounds.of(6, 0, 0, 0, 0, 0, 0, 1), Bounds.of(3, 2));
                    x.state(2, M[5], 0, 4);
                };
                // The exponents: 3 and 3 times 2 of Z, t, less c times 5; w: 18 less c times 4.
                int a = M[(9 + t + c * 2) % 7];
                Bounds.answers(37, "A with " + c + " " + t, a, stated,
                        x -> x.simulate(2, told, 1, answer));
                Bounds.answers(37, "what is told with " + c, M[5] + " 4 " + a + " "
                        + (18 + c * 3) % 7 + " " + c + " " + t, stated, x -> {
                            x.simulate(2, told, 1, answer);
                            String all = told(x, 2);
                            return all.substring(0, all.lastIndexOf(' '));
                        });
                Bounds.answers(37, "it is accepted", true, stated, x -> {
                    x.simulate(2, told, 1, answer);
                    return x.isAccepted(2);
                });
            }
        }
        Bounds.answers(37, "Z is a copy", "0 1 2 3 4 5 6 0", Bounds.in(Scenes::simulated), x -> {
            x.fill(3, 0, 0, 0, 0, 0, 0, 0, 0);
            return form(x, 1, true);
        });
        Bounds.answers(37, "a statement that no secret fits", true, x -> {
            x.state(0, 1, 0, 1);
            x.simulate(0, 6, 0, 6);
        }, x -> x.isAccepted(0));
    }

    // 38: the secret comes out, whichever run is told first, and into each row.
    private static void extract() {
        int[][] two = {{0, 1}, {1, 0}, {1, 2}, {2, 0}, {3, 1}};
        for (int[] runs : two) {
            for (int to = 0; to < 8; to++) {
                int made = to;
                Bounds.answers(38, "the blind number", 2, Bounds.in(Scenes::answered),
                        x -> x.extract(runs[0], runs[1], made));
                Bounds.answers(38, "the secret", "2 1 2 0 1 0 0 1", Bounds.in(Scenes::answered),
                        x -> {
                            x.extract(runs[0], runs[1], made);
                            return Bounds.row(x, made);
                        });
            }
        }
        Bounds.answers(38, "the greatest and the least challenge", 2, x -> {
            Bounds.in(Scenes::opened).set(x);
            x.dare(0, 6);
            x.dare(1, 0);
            x.reply(0, 1, 2);
            x.reply(1, 1, 2);
        }, x -> x.extract(0, 1, 5));
        Bounds.answers(38, "a reply and a simulation of one first message", 2, x -> {
            Bounds.in(Scenes::answered).set(x);
            x.state(3, x.told(1, 0), 0, x.told(1, 1));
            x.say(3, x.told(1, 2), x.told(1, 3));
            x.dare(3, 5);
            x.fill(6, 1 + 5 * 2, 5, 2 + 5 * 2, 2, 5, 1, 0, 5);
            x.tell(3, 6, 1 + 5 * 2 - 7);
        }, x -> x.extract(1, 3, 6));
    }

    private static void extractRefused() {
        Bounds.Setting answered = Bounds.in(Scenes::answered);
        for (int run = 0; run < 4; run++) {
            int one = run;
            Bounds.refused(38, Check.STATE, "one run alone", answered, x -> x.extract(one, one, 5));
        }
        Bounds.refused(38, Check.STATE, "the same challenge", answered, x -> x.extract(0, 3, 5));
        Bounds.refused(38, Check.STATE, "the same challenge, asked the other way", answered,
                x -> x.extract(3, 0, 5));
        Bounds.Setting open = x -> {
            answered.set(x);
            x.state(1, x.told(0, 0), 0, x.told(0, 1));
        };
        refusedBothWays("a statement alone", open);
        refusedBothWays("no answer", x -> {
            open.set(x);
            x.say(1, x.told(0, 2), x.told(0, 3));
            x.dare(1, 1);
        });
        refusedBothWays("an answer that is not accepted", x -> {
            open.set(x);
            x.say(1, x.told(0, 2), x.told(0, 3));
            x.dare(1, 1);
            x.tell(1, 7, 1);
        });
        Bounds.refused(38, Check.STATE, "no statement at all", Bounds.in(Scenes::rows),
                x -> x.extract(0, 1, 5));
    }

    /** Run 0 is accepted; run 1 is such that they are not two such runs. */
    private static void refusedBothWays(String what, Bounds.Setting setting) {
        Bounds.refused(38, Check.STATE, what, setting, x -> x.extract(0, 1, 5));
        Bounds.refused(38, Check.STATE, what + ", asked the other way", setting,
                x -> x.extract(1, 0, 5));
    }

    /** With a form of noughts, and answers of noughts, the exponents of y and A make t. */
    private static void accepted(Veilbourse x, int run, int form, int[] told, int c) {
        x.state(run, M[told[0]], form, told[1]);
        x.say(run, M[told[2]], told[3]);
        x.dare(run, c);
        x.tell(run, 7, (told[2] + c * told[0]) % 7);
        Check.that("38: run " + run + " is accepted", x.isAccepted(run));
    }

    /** Both runs are accepted, with unlike challenges, and differ only in what is told. */
    private static void extractFromUnlikeStatements() {
        int[] noughts = {1, 0, 2, 0};
        Bounds.answers(38, "but for that they are two such runs", 1, x -> {
            accepted(x, 0, 0, noughts, 2);
            accepted(x, 1, 0, noughts, 3);
        }, x -> x.extract(0, 1, 5));
        refusedBothWays("another y", x -> {
            accepted(x, 0, 0, noughts, 2);
            accepted(x, 1, 0, Bounds.of(3, 0, 2, 0), 3);
        });
        refusedBothWays("another A", x -> {
            accepted(x, 0, 0, noughts, 2);
            accepted(x, 1, 0, Bounds.of(1, 0, 4, 0), 3);
        });
        for (int place = 0; place < 8; place++) {
            int other = place;
            refusedBothWays("another form at " + place, x -> {
                x.put(1, other, 6);
                accepted(x, 0, 0, noughts, 2);
                accepted(x, 1, 1, noughts, 3);
            });
        }
        // w and c times v is 0: 5 and 2 times 1, 5 and 3 times 3; 5 and 2 times 1, 4 and 3 times 1.
        refusedBothWays("another v", x -> {
            accepted(x, 0, 0, Bounds.of(1, 1, 2, 5), 2);
            accepted(x, 1, 0, Bounds.of(1, 3, 2, 5), 3);
        });
        refusedBothWays("another w", x -> {
            accepted(x, 0, 0, Bounds.of(1, 1, 2, 5), 2);
            accepted(x, 1, 0, Bounds.of(1, 1, 2, 4), 3);
        });
    }

    // 39: the one mask, into each row, the secret's among them.
    private static void maskFor() {
        for (int to = 0; to < 8; to++) {
            int made = to;
            for (int run = 0; run < 4; run++) {
                int asked = run;
                Bounds.answers(39, "the blind number of the mask", 1, Bounds.in(Scenes::answered),
                        x -> x.maskFor(asked, 1, 2, made));
                Bounds.answers(39, "the mask", "1 0 2 2 0 1 0 0", Bounds.in(Scenes::answered),
                        x -> {
                            x.maskFor(asked, 1, 2, made);
                            return Bounds.row(x, made);
                        });
            }
        }
        for (int blind = 0; blind < 7; blind += 6) {
            int hiding = blind;
            Bounds.answers(39, "with the blind number " + blind, 3, x -> {
                Bounds.put(x, Bounds.of(1), Bounds.of(0, 4), Bounds.of(5));
                x.state(0, x.commit(1, hiding), 0, 0);
                x.open(0, 2, 3);
                x.dare(0, 6);
                x.reply(0, 1, hiding);
            }, x -> x.maskFor(0, 1, hiding, 3));
        }
        Bounds.answers(39, "of a run without a mask", true, Bounds.in(Scenes::simulated), x -> {
            int blind = x.maskFor(0, 1, 2, 5);
            return x.commit(5, blind) == x.told(0, 2) && x.inner(0, 5) == x.told(0, 3);
        });
    }

    private static void maskForRefused() {
        Bounds.Setting answered = Bounds.in(Scenes::answered);
        Bounds.refused(39, Check.STATE, "another blind number", answered,
                x -> x.maskFor(0, 1, 3, 5));
        Bounds.refused(39, Check.STATE, "another row", answered, x -> x.maskFor(0, 2, 2, 5));
        // The place 0 weighs in the form, and 1 less of the blind number keeps the commitment.
        Bounds.refused(39, Check.STATE, "a break that the form tells apart", x -> {
            answered.set(x);
            x.breaks(1, 2, 0, 6);
        }, x -> x.maskFor(0, 6, 1, 5));
        Bounds.answers(39, "a break that it does not", true, x -> {
            answered.set(x);
            x.breaks(1, 2, 2, 6);
        }, x -> x.maskFor(0, 6, 1, 5) >= 0);
        Bounds.refused(39, Check.STATE, "it fits, but is not accepted",
                Bounds.in(Scenes::toldWrongly), x -> x.maskFor(0, 1, 2, 5));
        Bounds.refused(39, Check.STATE, "it fits, but there is no answer",
                Bounds.in(Scenes::dared), x -> x.maskFor(0, 1, 2, 5));
        Bounds.refused(39, Check.STATE, "into the secret", answered, x -> x.maskFor(0, 1, 3, 1));
    }

    // 40: as soon as there is a statement.
    private static void fits() {
        for (int i = 1; i < STAGES.length; i++) {
            Bounds.Setting stage = Bounds.in(STAGES[i]);
            Bounds.answers(40, "it fits at the stage " + i, true, stage, x -> x.fits(2, 1, 2));
            Bounds.answers(40, "it does not open y", false, stage, x -> x.fits(2, 1, 3));
            Bounds.answers(40, "its inner product is another", false, stage, x -> {
                x.breaks(1, 2, 0, 6);
                return x.fits(2, 6, 1);
            });
        }
        Bounds.answers(40, "noughts fit noughts", true, x -> x.state(0, 1, 0, 0),
                x -> x.fits(0, 0, 0));
        Bounds.answers(40, "no secret fits", false, x -> x.state(0, 1, 0, 1),
                x -> x.fits(0, 0, 0));
    }

    // 41: none, one, and all.
    private static void challenges() {
        for (int field = 0; field < 8; field++) {
            int taken = field;
            int p = PRIMES[field];
            for (int v = 0; v < p; v += p - 1) {
                for (int w = 0; w < p; w += p - 1) {
                    int number = v;
                    int first = w;
                    int due = v != 0 ? 1 : w == 0 ? p : 0;
                    Bounds.answers(41, "noughts as form, v " + v + ", w " + w, due, x -> {
                        x.field(taken);
                        x.state(0, 1, 0, number);
                        x.say(0, 1, first);
                    }, x -> x.challenges(0));
                    for (int place = 0; place < 8; place += 7) {
                        int only = place;
                        Bounds.answers(41, "a form at " + place, p, x -> {
                            x.field(taken);
                            x.put(0, only, p - 1);
                            x.state(0, 1, 0, number);
                            x.say(0, 1, first);
                        }, x -> x.challenges(0));
                    }
                }
            }
        }
    }

    private static void challengesAtEachStage() {
        for (int i = 2; i < STAGES.length; i++) {
            Bounds.answers(41, "at the stage " + i, 7, Bounds.in(STAGES[i]),
                    x -> x.challenges(3));
        }
        for (int c = 0; c < 7; c++) {
            int told = c;
            Bounds.answers(41, "whatever challenge was told", 1, x -> {
                x.state(0, 16, 0, 3);
                x.say(0, 24, 5);
                x.dare(0, told);
                x.tell(0, 0, 6);
            }, x -> x.challenges(0));
        }
    }

    // 42: NONE if it is not there; T as soon as there is a first message.
    private static void told() {
        int t = transcript(16, 0, 3, 24, 5);
        Bounds.Setting stated = x -> x.state(1, 16, 0, 3);
        Bounds.answers(42, "nothing", "-1 -1 -1 -1 -1 -1 -1", Bounds.in(Scenes::rows),
                x -> told(x, 1));
        Bounds.answers(42, "a statement", "16 3 -1 -1 -1 -1 -1", stated, x -> told(x, 1));
        Bounds.answers(42, "a first message", "16 3 24 5 -1 -1 " + t, stated, x -> {
            x.say(1, 24, 5);
            return told(x, 1);
        });
        Bounds.answers(42, "a challenge", "16 3 24 5 0 -1 " + t, stated, x -> {
            x.say(1, 24, 5);
            x.dare(1, 0);
            return told(x, 1);
        });
        Bounds.answers(42, "an answer", "16 3 24 5 0 0 " + t, stated, x -> {
            x.say(1, 24, 5);
            x.dare(1, 0);
            x.tell(1, 0, 0);
            return told(x, 1);
        });
        Bounds.answers(42, "T itself, not modulo p", true, stated, x -> {
            x.say(1, 24, 5);
            x.ask(1);
            return x.told(1, 6) > 6 && x.told(1, 6) % 7 == x.told(1, 4);
        });
    }

    // 43: the form with a statement, Z with an answer.
    private static void form() {
        for (int i = 1; i < STAGES.length; i++) {
            Bounds.answers(43, "the form at the stage " + i, "1 2 0 1 0 0 1 1",
                    Bounds.in(STAGES[i]), x -> form(x, 2, false));
        }
        for (int i = 1; i < 7; i++) {
            Bounds.refused(43, Check.STATE, "Z at the stage " + i, Bounds.in(STAGES[i]),
                    x -> x.form(2, 7, true));
        }
        Bounds.answers(43, "Z of an answer", "1 0 0 0 0 0 0 0", Bounds.in(Scenes::toldWrongly),
                x -> form(x, 2, true));
        Bounds.answers(43, "Z of a simulation", "0 1 2 3 4 5 6 0", Bounds.in(Scenes::simulated),
                x -> form(x, 2, true));
        Bounds.answers(43, "Z of noughts", "0 0 0 0 0 0 0 0", x -> {
            x.state(0, 1, 0, 0);
            x.simulate(0, 0, 0, 0);
        }, x -> form(x, 0, true));
    }

    /** Two statements of one form: y has the exponents 5 and 6, v is 3 and 6. */
    private static Bounds.Setting twoOfOneForm() {
        return x -> {
            Bounds.in(Scenes::rows).set(x);
            x.state(0, M[5], 0, 3);
            x.state(1, M[6], 0, 6);
        };
    }

    // 44: the least and the greatest factor.
    private static void fold() {
        int[][] due = {{0, 5, 3}, {1, 4, 2}, {6, 41 % 7, 39 % 7}};
        for (int[] n : due) {
            Bounds.answers(44, "y with the factor " + n[0], M[n[1]], twoOfOneForm(),
                    x -> x.fold(0, 1, n[0], 3));
            Bounds.answers(44, "told with the factor " + n[0],
                    M[n[1]] + " " + n[2] + " -1 -1 -1 -1 -1", twoOfOneForm(), x -> {
                        x.fold(0, 1, n[0], 3);
                        return told(x, 3);
                    });
        }
        Bounds.answers(44, "with itself, the factor 6", M[0], twoOfOneForm(),
                x -> x.fold(1, 1, 6, 3));
        Bounds.answers(44, "of one commitment", M[3], x -> {
            x.state(0, M[5], 0, 3);
            x.state(1, M[5], 0, 6);
        }, x -> x.fold(0, 1, 1, 2));
    }

    private static void foldInto() {
        for (int into = 0; into < 4; into++) {
            int made = into;
            Bounds.answers(44, "into " + into, M[5 + 18 - 21] + " 0 -1 -1 -1 -1 -1",
                    twoOfOneForm(), x -> {
                        x.fold(0, 1, 3, made);
                        return told(x, made);
                    });
            Bounds.answers(44, "the form in " + into, "1 2 0 1 0 0 1 1", twoOfOneForm(), x -> {
                x.fold(0, 1, 3, made);
                return form(x, made, false);
            });
            Bounds.answers(44, "the other one stays", true, twoOfOneForm(), x -> {
                x.fold(0, 1, 3, made);
                return (made == 0 || x.told(0, 0) == M[5]) && (made == 1 || x.told(1, 0) == M[6]);
            });
            for (int i = 1; i < STAGES.length; i++) {
                Bounds.answers(44, "it begins anew from the stage " + i, true,
                        Bounds.in(STAGES[i]), x -> {
                            x.fold(1, 2, 1, made);
                            return told(x, made).endsWith(" -1 -1 -1 -1 -1");
                        });
            }
        }
    }

    private static void foldRefused() {
        for (int place = 0; place < 8; place++) {
            int other = place;
            Bounds.refused(44, Check.STATE, "forms unlike at " + place, x -> {
                x.put(1, other, 6);
                x.state(0, 16, 0, 0);
                x.state(1, 16, 1, 0);
            }, x -> x.fold(0, 1, 1, 2));
        }
        Bounds.Setting first = x -> x.state(0, 16, 0, 0);
        Bounds.refused(44, Check.STATE, "no second statement", first, x -> x.fold(0, 1, 1, 2));
        Bounds.refused(44, Check.STATE, "no first statement", first, x -> x.fold(1, 0, 1, 2));
        Bounds.refused(44, Check.STATE, "no statement, into one", first, x -> x.fold(1, 2, 1, 0));
        Bounds.refused(44, Check.STATE, "no statement, with itself", first,
                x -> x.fold(1, 1, 1, 0));
        Bounds.answers(44, "into one without a statement", 1, x -> x.state(0, 1, 0, 0),
                x -> x.fold(0, 0, 1, 3));
        Bounds.first(44, Check.ARGUMENT, Check.STATE, "forms unlike, no factor", x -> {
            x.put(1, 0, 6);
            x.state(0, 16, 0, 0);
            x.state(1, 16, 1, 0);
        }, x -> x.fold(0, 1, 7, 2));
    }

    /** Two statements of one commitment: v is 3 and 6. */
    private static Bounds.Setting twoOfOneMember() {
        return x -> {
            Bounds.put(x, Bounds.of(1, 0, 0, 0, 0, 0, 0, 6), Bounds.of(6, 2, 0, 0, 0, 0, 0, 6));
            x.state(0, M[5], 0, 3);
            x.state(1, M[5], 1, 6);
        };
    }

    // 45: the least and the greatest factor.
    private static void batch() {
        String[] forms = {"1 0 0 0 0 0 0 6", "0 2 0 0 0 0 0 5", "2 5 0 0 0 0 0 0"};
        int[][] due = {{0, 3}, {1, 2}, {6, 39 % 7}};
        for (int i = 0; i < 3; i++) {
            int factor = due[i][0];
            Bounds.answers(45, "v with the factor " + factor, due[i][1], twoOfOneMember(),
                    x -> x.batch(0, 1, factor, 3));
            Bounds.answers(45, "the form with the factor " + factor, forms[i], twoOfOneMember(),
                    x -> {
                        x.batch(0, 1, factor, 3);
                        return form(x, 3, false);
                    });
            Bounds.answers(45, "told with the factor " + factor,
                    M[5] + " " + due[i][1] + " -1 -1 -1 -1 -1", twoOfOneMember(), x -> {
                        x.batch(0, 1, factor, 3);
                        return told(x, 3);
                    });
        }
        Bounds.answers(45, "with itself, the factor 6", "0 0 0 0 0 0 0 0", twoOfOneMember(), x -> {
            x.batch(1, 1, 6, 3);
            return form(x, 3, false);
        });
    }

    private static void batchInto() {
        for (int into = 0; into < 4; into++) {
            int made = into;
            Bounds.answers(45, "into " + into, M[5] + " 0 -1 -1 -1 -1 -1", twoOfOneMember(), x -> {
                x.batch(0, 1, 3, made);
                return told(x, made);
            });
            Bounds.answers(45, "the form in " + into, "5 6 0 0 0 0 0 3", twoOfOneMember(), x -> {
                x.batch(0, 1, 3, made);
                return form(x, made, false);
            });
            for (int i = 1; i < STAGES.length; i++) {
                Bounds.answers(45, "it begins anew from the stage " + i, true,
                        Bounds.in(STAGES[i]), x -> {
                            x.batch(1, 2, 1, made);
                            return told(x, made).endsWith(" -1 -1 -1 -1 -1");
                        });
            }
        }
    }

    private static void batchRefused() {
        Bounds.Setting unlike = x -> {
            x.state(0, 16, 0, 0);
            x.state(1, 24, 0, 0);
        };
        Bounds.refused(45, Check.STATE, "unlike commitments", unlike, x -> x.batch(0, 1, 1, 2));
        Bounds.first(45, Check.ARGUMENT, Check.STATE, "unlike commitments, no factor", unlike,
                x -> x.batch(0, 1, -1, 2));
        Bounds.first(45, Check.INDEX, Check.STATE, "unlike commitments, into none", unlike,
                x -> x.batch(0, 1, 1, 4));
        Bounds.refused(45, Check.STATE, "no second statement", unlike, x -> x.batch(0, 2, 1, 3));
        Bounds.refused(45, Check.STATE, "no first statement", unlike, x -> x.batch(2, 0, 1, 3));
        Bounds.refused(45, Check.STATE, "no statement, with itself", unlike,
                x -> x.batch(2, 2, 1, 0));
        Bounds.answers(45, "into one without a statement", 0, unlike, x -> x.batch(0, 0, 1, 3));
    }

    // 46: none, one, and all.
    private static void factors() {
        // Row 1 gives 3 with the form, row 2 gives 4, row 3 gives 5.
        Bounds.Setting one = x -> {
            Bounds.put(x, Bounds.of(1), Bounds.of(3), Bounds.of(4), Bounds.of(5));
            x.state(0, 16, 0, 3);
            x.state(1, 16, 0, 4);
        };
        Bounds.answers(46, "fold, both hold", 7, one, x -> x.factors(0, 1, 1, false, 2));
        Bounds.answers(46, "fold, the first alone", 1, one, x -> x.factors(0, 1, 1, false, 3));
        Bounds.answers(46, "fold, the second alone", 0, one, x -> x.factors(0, 1, 2, false, 2));
        Bounds.answers(46, "fold, neither", 1, one, x -> x.factors(0, 1, 2, false, 3));
        Bounds.answers(46, "batch, the first alone", 1, one, x -> x.factors(0, 1, 1, true, 2));
        Bounds.answers(46, "batch, the second alone", 0, one, x -> x.factors(0, 1, 2, true, 1));
        Bounds.answers(46, "batch, neither", 1, one, x -> x.factors(0, 1, 3, true, 1));
        Bounds.answers(46, "batch, both hold", 7, one, x -> x.factors(0, 0, 1, true, 2));
        for (int secret2 = 0; secret2 < 8; secret2++) {
            int notLookedAt = secret2;
            Bounds.answers(46, "batch does not look at secret2", 1, one,
                    x -> x.factors(0, 1, 3, true, notLookedAt));
        }
        for (int field = 0; field < 8; field++) {
            Bounds.answers(46, "all of " + PRIMES[field], PRIMES[field],
                    Bounds.in(field, Scenes::stated), x -> x.factors(0, 1, 1, false, 1));
        }
    }

    private static void factorsRefused() {
        Bounds.Setting members = x -> {
            x.state(0, 16, 0, 0);
            x.state(1, 24, 0, 0);
        };
        Bounds.refused(46, Check.STATE, "batch of unlike commitments", members,
                x -> x.factors(0, 1, 0, true, 0));
        Bounds.answers(46, "fold of unlike commitments", 7, members,
                x -> x.factors(0, 1, 0, false, 0));
        for (int place = 0; place < 8; place += 7) {
            int other = place;
            Bounds.Setting forms = x -> {
                x.put(1, other, 1);
                x.state(0, 16, 0, 0);
                x.state(1, 16, 1, 0);
            };
            Bounds.refused(46, Check.STATE, "fold of unlike forms", forms,
                    x -> x.factors(0, 1, 0, false, 0));
            Bounds.answers(46, "batch of unlike forms", 7, forms,
                    x -> x.factors(0, 1, 0, true, 0));
        }
        for (int i = 0; i < 2; i++) {
            boolean isBatch = i == 1;
            Bounds.refused(46, Check.STATE, "no second statement", members,
                    x -> x.factors(0, 2, 0, isBatch, 0));
            Bounds.refused(46, Check.STATE, "no first statement", members,
                    x -> x.factors(2, 0, 0, isBatch, 0));
            Bounds.refused(46, Check.STATE, "no statement", members,
                    x -> x.factors(2, 2, 0, isBatch, 0));
            Bounds.first(46, Check.INDEX, Check.STATE, "no statement, no secret2", members,
                    x -> x.factors(0, 2, 0, isBatch, 8));
        }
    }
}
