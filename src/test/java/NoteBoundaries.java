import java.math.BigInteger;

/** The boundary cases of the promises 66 to 74: the ledger, and what is about all. */
final class NoteBoundaries {

    private static final int[] PRIMES = {3, 5, 7, 11, 13, 17, 19, 23};
    /** The powers of B in the first field; G0 and H are B itself. */
    private static final int[] M = {1, 16, 24, 7, 25, 23, 20};
    private static final Scenes.Scene[] SCENES = {Scenes::nothing, Scenes::rows,
        Scenes::rowsOfDegreeThree, Scenes::rowsOfPoints, Scenes::rowsAlike, Scenes::stated,
        Scenes::opened, Scenes::said, Scenes::dared, Scenes::asked, Scenes::saidAndDared,
        Scenes::answered, Scenes::toldWrongly, Scenes::simulated, Scenes::answeredWithRowsAlike,
        Scenes::chosen, Scenes::hidden, Scenes::bitsDared, Scenes::sevenGates,
        Scenes::eightGates, Scenes::played, Scenes::sent, Scenes::drawn, Scenes::lastSent,
        Scenes::over, Scenes::fourNotes, Scenes::fourSpentNotes, Scenes::fourteenNotes,
        Scenes::fifteenNotes, Scenes::sixteenNotes, Scenes::sixteenNotesMostSpent,
        Scenes::payable};

    private NoteBoundaries() {
    }

    static void all() {
        mint();
        mintFull();
        split();
        splitFull();
        splitRefused();
        merge();
        mergeFull();
        mergeRefused();
        note();
        pay();
        payRefused();
        payByOneThing();
        payByAnyChallenge();
        standing();
        risk();
        checksum();
        isTrue();
    }

    private static Bounds.Setting notes(int many) {
        return x -> {
            for (int i = 0; i < many; i++) {
                x.mint(1, 1);
            }
        };
    }

    // 66: numbered from 0; the least and the greatest amount and blind number.
    private static void mint() {
        int[] ends = {0, 6};
        for (int amount : ends) {
            for (int blind : ends) {
                Bounds.answers(66, "the note of " + amount + " and " + blind,
                        M[(amount + blind) % 7], x -> x.mint(amount, blind), x -> x.note(0));
            }
        }
        for (int many = 0; many < 16; many++) {
            Bounds.answers(66, "behind " + many, many, notes(many), x -> x.mint(6, 6));
        }
    }

    // 66: sixteen, those that are spent among them.
    private static void mintFull() {
        Bounds.answers(66, "the sixteenth", 15, notes(15), x -> x.mint(1, 1));
        Bounds.refused(66, Check.STATE, "the seventeenth", notes(16), x -> x.mint(1, 1));
        Bounds.refused(66, Check.STATE, "the seventeenth, most are spent",
                Bounds.in(Scenes::sixteenNotesMostSpent), x -> x.mint(1, 1));
        Bounds.refused(66, Check.STATE, "the seventeenth after a split", x -> {
            notes(14).set(x);
            x.split(0, 1, 1);
        }, x -> x.mint(1, 1));
        Bounds.refused(66, Check.STATE, "the seventeenth after a merge", x -> {
            notes(15).set(x);
            x.merge(0, 1);
        }, x -> x.mint(1, 1));
        Bounds.refused(66, Check.STATE, "the seventeenth, all are paid that can be", x -> {
            Bounds.in(Scenes::payable).set(x);
            for (int note = 0; note < 4; note++) {
                x.pay(note, 0);
            }
            for (int i = 0; i < 12; i++) {
                x.mint(1, 1);
            }
        }, x -> x.mint(1, 1));
        Bounds.answers(66, "there is room in another field", 0, x -> {
            notes(16).set(x);
            x.field(2);
        }, x -> x.mint(1, 1));
    }

    // 67: less, as much and more than the note; the difference goes round.
    private static void split() {
        int[][] due = {{0, 0, 0, 3}, {1, 1, 2, 1}, {1, 2, 3, 0}, {6, 6, 5, 5}, {0, 6, 6, 4}};
        for (int[] n : due) {
            Bounds.Setting one = x -> x.mint(2, 1);
            Bounds.answers(67, "the number of the first", 1, one, x -> x.split(0, n[0], n[1]));
            Bounds.answers(67, "the notes of " + n[0] + " and " + n[1],
                    "0 " + M[n[2]] + " " + M[n[3]], one, x -> {
                        x.split(0, n[0], n[1]);
                        return x.note(0) + " " + x.note(1) + " " + x.note(2);
                    });
        }
        Bounds.answers(67, "the last note", 8, notes(8), x -> x.split(7, 1, 1));
    }

    // 67: two more must have room.
    private static void splitFull() {
        for (int many = 1; many <= 14; many++) {
            int before = many;
            Bounds.answers(67, "of " + many, many, notes(many), x -> x.split(before - 1, 0, 0));
        }
        Bounds.refused(67, Check.STATE, "of fifteen", notes(15), x -> x.split(0, 0, 0));
        Bounds.refused(67, Check.STATE, "of sixteen", notes(16), x -> x.split(0, 0, 0));
        Bounds.refused(67, Check.STATE, "of sixteen that are spent",
                Bounds.in(Scenes::sixteenNotesMostSpent), x -> x.split(15, 0, 0));
        Bounds.answers(67, "then there are sixteen", Check.STATE, notes(14), x -> {
            x.split(0, 0, 0);
            return Probe.outcome(() -> x.mint(0, 0));
        });
    }

    private static void splitRefused() {
        Bounds.refused(67, Check.INDEX, "no note at all", notes(0), x -> x.split(0, 0, 0));
        Bounds.refused(67, Check.INDEX, "the next one", notes(3), x -> x.split(3, 0, 0));
        Bounds.refused(67, Check.INDEX, "the seventeenth", notes(16), x -> x.split(16, 0, 0));
        Bounds.refused(67, Check.STATE, "spent by split", x -> {
            x.mint(1, 1);
            x.split(0, 0, 0);
        }, x -> x.split(0, 0, 0));
        Bounds.refused(67, Check.STATE, "spent by merge", x -> {
            notes(2).set(x);
            x.merge(0, 1);
        }, x -> x.split(1, 0, 0));
        Bounds.refused(67, Check.STATE, "spent by pay", x -> {
            Bounds.in(Scenes::payable).set(x);
            x.pay(2, 0);
        }, x -> x.split(2, 0, 0));
        Bounds.first(67, Check.ARGUMENT, Check.STATE, "spent, no amount", x -> {
            x.mint(1, 1);
            x.split(0, 0, 0);
        }, x -> x.split(0, 7, 0));
        Bounds.first(67, Check.ARGUMENT, Check.STATE, "full, no blind number", notes(16),
                x -> x.split(0, 0, -1));
        Bounds.first(67, Check.INDEX, Check.STATE, "full, no note", notes(16),
                x -> x.split(-1, 0, 0));
    }

    // 68: whichever is told first; the product goes round.
    private static void merge() {
        Bounds.Setting three = x -> {
            x.mint(6, 0);
            x.mint(0, 6);
            x.mint(1, 0);
        };
        Bounds.answers(68, "its number", 3, three, x -> x.merge(0, 1));
        Bounds.answers(68, "the product", M[5], three, x -> x.note(x.merge(0, 1)));
        Bounds.answers(68, "the other way round", M[5], three, x -> x.note(x.merge(1, 0)));
        Bounds.answers(68, "to nothing", 1, three, x -> x.note(x.merge(2, 0)));
        Bounds.answers(68, "both are spent", "0 " + M[6] + " 0", three, x -> {
            x.merge(0, 2);
            return x.note(0) + " " + x.note(1) + " " + x.note(2);
        });
    }

    // 68: one more must have room.
    private static void mergeFull() {
        for (int many = 2; many <= 15; many++) {
            int before = many;
            Bounds.answers(68, "of " + many, many, notes(many), x -> x.merge(0, before - 1));
        }
        Bounds.refused(68, Check.STATE, "of sixteen", notes(16), x -> x.merge(0, 15));
        Bounds.refused(68, Check.STATE, "of sixteen that are spent",
                Bounds.in(Scenes::sixteenNotesMostSpent), x -> x.merge(14, 15));
        Bounds.answers(68, "then there are sixteen", Check.STATE, notes(15), x -> {
            x.merge(0, 1);
            return Probe.outcome(() -> x.merge(2, 3));
        });
    }

    private static void mergeRefused() {
        Bounds.Setting spent = x -> {
            notes(4).set(x);
            x.merge(0, 1);
        };
        Bounds.refused(68, Check.INDEX, "no note at all", notes(0), x -> x.merge(0, 1));
        Bounds.refused(68, Check.INDEX, "the second is the next one", notes(3),
                x -> x.merge(0, 3));
        Bounds.refused(68, Check.INDEX, "the first is the next one", notes(3),
                x -> x.merge(3, 0));
        Bounds.refused(68, Check.ARGUMENT, "the same one", spent, x -> x.merge(2, 2));
        Bounds.refused(68, Check.STATE, "the first is spent", spent, x -> x.merge(0, 2));
        Bounds.refused(68, Check.STATE, "the second is spent", spent, x -> x.merge(2, 1));
        Bounds.refused(68, Check.STATE, "both are spent", spent, x -> x.merge(0, 1));
        Bounds.first(68, Check.INDEX, Check.ARGUMENT, "the same one, which is none", spent,
                x -> x.merge(5, 5));
        Bounds.first(68, Check.INDEX, Check.ARGUMENT, "the same one, -1", spent,
                x -> x.merge(-1, -1));
        Bounds.first(68, Check.INDEX, Check.STATE, "a spent one and none", spent,
                x -> x.merge(0, 5));
        Bounds.first(68, Check.INDEX, Check.STATE, "none and a spent one", spent,
                x -> x.merge(-1, 0));
        Bounds.first(68, Check.ARGUMENT, Check.STATE, "a spent one with itself", spent,
                x -> x.merge(1, 1));
        Bounds.first(68, Check.ARGUMENT, Check.STATE, "the same one of sixteen", notes(16),
                x -> x.merge(15, 15));
    }

    // 69: 0 if it is spent, whatever spent it.
    private static void note() {
        Bounds.refused(69, Check.INDEX, "no note at all", notes(0), x -> x.note(0));
        for (int many = 1; many <= 16; many++) {
            int next = many;
            Bounds.answers(69, "the last of " + many, M[2], notes(many), x -> x.note(next - 1));
            Bounds.refused(69, Check.INDEX, "the next of " + many, notes(many),
                    x -> x.note(next));
        }
        Bounds.answers(69, "spent by split", 0, notes(2), x -> {
            x.split(1, 1, 1);
            return x.note(1);
        });
        Bounds.answers(69, "spent by merge", 0, notes(2), x -> {
            x.merge(0, 1);
            return x.note(1);
        });
        Bounds.answers(69, "spent by pay", 0, Bounds.in(Scenes::payable), x -> {
            x.pay(3, 3);
            return x.note(3);
        });
        Bounds.answers(69, "a note of nothing is not spent", 1, x -> x.mint(0, 0),
                x -> x.note(0));
    }

    // 70: each note by each run; the run stays, and serves again.
    private static void pay() {
        for (int n = 0; n < 16; n++) {
            int note = n / 4;
            int run = n % 4;
            Bounds.answers(70, "the amount", 2, Bounds.in(Scenes::payable),
                    x -> x.pay(note, run));
            Bounds.answers(70, "the run stays", true, Bounds.in(Scenes::payable), x -> {
                x.pay(note, run);
                return x.isAccepted(run) && x.told(run, 5) >= 0 && x.form(run, 0, false) == 1;
            });
            Bounds.answers(70, "only that note is spent", true, Bounds.in(Scenes::payable), x -> {
                x.pay(note, run);
                boolean holds = true;
                for (int i = 0; i < 4; i++) {
                    holds &= (x.note(i) == 0) == (i == note);
                }
                return holds;
            });
        }
        Bounds.answers(70, "one run for four notes of one commitment", 8,
                Bounds.in(Scenes::payable),
                x -> x.pay(0, 1) + x.pay(1, 1) + x.pay(2, 1) + x.pay(3, 1));
        for (int amount = 0; amount < 7; amount += 6) {
            int paid = amount;
            Bounds.answers(70, "the amount " + amount, amount, x -> {
                payable(x, paid, 6);
                x.reply(0, 2, 6);
            }, x -> x.pay(0, 0));
        }
    }

    /** A note, and a run that is to show an opening of it, up to its challenge. */
    private static void payable(Veilbourse x, int amount, int blind) {
        Bounds.put(x, Bounds.of(1), Bounds.of(4, 1, 0, 5), Bounds.of(amount));
        x.mint(amount, blind);
        x.state(0, x.note(0), 0, amount);
        x.open(0, 1, 3);
        x.ask(0);
    }

    private static void payRefused() {
        Bounds.refused(70, Check.INDEX, "no note at all", Bounds.in(Scenes::answered),
                x -> x.pay(0, 0));
        Bounds.refused(70, Check.INDEX, "the next note", Bounds.in(Scenes::payable),
                x -> x.pay(4, 0));
        Bounds.refused(70, Check.STATE, "spent by pay", x -> {
            Bounds.in(Scenes::payable).set(x);
            x.pay(1, 1);
        }, x -> x.pay(1, 1));
        Bounds.refused(70, Check.STATE, "spent by split", x -> {
            Bounds.in(Scenes::payable).set(x);
            x.split(1, 0, 0);
        }, x -> x.pay(1, 1));
        Bounds.refused(70, Check.STATE, "spent by merge", x -> {
            Bounds.in(Scenes::payable).set(x);
            x.merge(0, 1);
        }, x -> x.pay(1, 1));
        Bounds.first(70, Check.INDEX, Check.STATE, "spent, no run", x -> {
            Bounds.in(Scenes::payable).set(x);
            x.pay(1, 1);
        }, x -> x.pay(1, 4));
        Bounds.first(70, Check.INDEX, Check.STATE, "no statement, no note",
                Bounds.in(Scenes::fourNotes), x -> x.pay(4, 0));
        Bounds.refused(70, Check.STATE, "no statement", Bounds.in(Scenes::fourNotes),
                x -> x.pay(0, 0));
        Bounds.refused(70, Check.STATE, "a statement alone", x -> {
            payable(x, 2, 1);
            x.state(0, x.note(0), 0, 2);
        }, x -> x.pay(0, 0));
        Bounds.refused(70, Check.STATE, "no challenge", x -> {
            payable(x, 2, 1);
            x.state(0, x.note(0), 0, 2);
            x.open(0, 1, 3);
        }, x -> x.pay(0, 0));
        Bounds.refused(70, Check.STATE, "no answer", x -> payable(x, 2, 1), x -> x.pay(0, 0));
        Bounds.refused(70, Check.STATE, "an answer that is not accepted", x -> {
            payable(x, 2, 1);
            int c = x.told(0, 4);
            x.mix(1, 2, c, 4);
            x.tell(0, 4, (3 + c + 1) % 7);
        }, x -> x.pay(0, 0));
        Bounds.refused(70, Check.STATE, "the statement of another note", x -> {
            payable(x, 2, 1);
            x.reply(0, 2, 1);
            x.mint(2, 2);
        }, x -> x.pay(1, 0));
    }

    // 70: all is as it must be, but for the form or the challenge.
    private static void payByOneThing() {
        for (int place = 0; place < 8; place++) {
            int other = place;
            int[] numbers = {0, 2, 6};
            for (int number : numbers) {
                if (place == 0 || number != 0) {
                    Bounds.refused(70, Check.STATE, "the form has " + number + " at " + place,
                            x -> {
                                x.put(3, 0, 1);
                                x.put(3, other, number);
                                payable(x, 2, 1);
                                x.state(0, x.note(0), 3, x.inner(2, 3));
                                x.open(0, 1, 3);
                                x.ask(0);
                                x.reply(0, 2, 1);
                                Check.that("70: it is accepted", x.isAccepted(0));
                            }, x -> x.pay(0, 0));
                }
            }
        }
        for (int more = 1; more < 7; more++) {
            int added = more;
            Bounds.refused(70, Check.STATE, "T and " + more + " as challenge", x -> {
                payable(x, 2, 1);
                int c = x.told(0, 4);
                x.state(0, x.note(0), 0, 2);
                x.open(0, 1, 3);
                x.dare(0, (c + added) % 7);
                x.reply(0, 2, 1);
                Check.that("70: it is accepted", x.isAccepted(0));
            }, x -> x.pay(0, 0));
        }
    }

    // 70: "its challenge equal to T modulo p, however it came".
    private static void payByAnyChallenge() {
        Bounds.answers(70, "a challenge that was dared", 2, x -> {
            payable(x, 2, 1);
            int c = x.told(0, 4);
            x.state(0, x.note(0), 0, 2);
            x.open(0, 1, 3);
            x.dare(0, c);
            x.reply(0, 2, 1);
        }, x -> x.pay(0, 0));
        Bounds.answers(70, "an answer of whoever it is", 2, x -> {
            payable(x, 2, 1);
            int c = x.told(0, 4);
            x.state(0, x.note(0), 0, 2);
            x.say(0, x.commit(1, 3), x.inner(0, 1));
            x.ask(0);
            x.mix(1, 2, c, 4);
            x.tell(0, 4, (3 + c) % 7);
        }, x -> x.pay(0, 0));
        int many = 0;
        for (int n = 0; n < 49; n++) {
            int c = n / 7;
            int t = n % 7;
            Bounds.Setting simulated = x -> {
                payable(x, 2, 1);
                x.state(0, x.note(0), 0, 2);
                x.simulate(0, c, 1, t);
            };
            if (Bounds.made(simulated).told(0, 6) % 7 == c) {
                many++;
                Bounds.answers(70, "a simulation with T", 2, simulated, x -> x.pay(0, 0));
            } else {
                Bounds.refused(70, Check.STATE, "a simulation", simulated, x -> x.pay(0, 0));
            }
        }
        Check.that("70: a simulation has T now and then", many > 0);
    }

    // 71: 1 if there is none, or all are spent.
    private static void standing() {
        Bounds.answers(71, "none", 1, notes(0), x -> x.standing());
        Bounds.answers(71, "sixteen", M[32 % 7], notes(16), x -> x.standing());
        Bounds.answers(71, "all are spent", 1, x -> {
            Bounds.in(Scenes::payable).set(x);
            for (int note = 0; note < 4; note++) {
                x.pay(note, note);
            }
        }, x -> x.standing());
        Bounds.answers(71, "all but one", true, x -> {
            Bounds.in(Scenes::payable).set(x);
            for (int note = 0; note < 3; note++) {
                x.pay(note, note);
            }
        }, x -> x.standing() == x.note(3));
        Bounds.answers(71, "split keeps it", M[4], x -> {
            notes(2).set(x);
            x.split(1, 6, 5);
        }, x -> x.standing());
        Bounds.answers(71, "merge keeps it", M[4], x -> {
            notes(2).set(x);
            x.merge(1, 0);
        }, x -> x.standing());
    }

    // 72: 1 to 30.
    private static void risk() {
        for (int field = 0; field < 8; field++) {
            int taken = field;
            int p = PRIMES[field];
            double share = (double) (p * p * p - (p - 1) * (p - 1) * (p - 1))
                    / (double) (p * p * p);
            double due = 1.0;
            for (int many = 1; many <= 30; many++) {
                int asked = many;
                due = due * share;
                Bounds.answers(72, many + " games in the field " + p, due, x -> x.field(taken),
                        x -> x.risk(asked));
            }
        }
    }

    // 73: "a long that goes round".
    private static void checksum() {
        for (Scenes.Scene scene : SCENES) {
            for (int field = 0; field < 8; field++) {
                Veilbourse x = Bounds.made(Bounds.in(field, scene));
                BigInteger due = added(BigInteger.valueOf(7), PRIMES[field]);
                for (int i = 0; i < 64; i++) {
                    due = added(due, x.get(i / 8, i % 8));
                }
                for (int i = 0; i < 24; i++) {
                    due = added(due, x.told(i / 6, i % 6));
                }
                for (int i = 0; i < 16; i++) {
                    int note = i;
                    Object told = Probe.outcome(() -> x.note(note));
                    due = told instanceof Integer ? added(due, (Integer) told) : due;
                }
                long got = x.checksum();
                Check.equal("73: asked again", x.checksum(), got);
                due = added(due, x.ungate());
                Check.equal("73: checksum", got, due.longValue());
            }
        }
    }

    private static BigInteger added(BigInteger sum, int number) {
        return sum.multiply(BigInteger.valueOf(31)).add(BigInteger.valueOf(number));
    }

    // 74: in each state, and nothing is changed by it.
    private static void isTrue() {
        for (int field = 0; field < 8; field++) {
            for (Scenes.Scene scene : SCENES) {
                trueIn(Bounds.in(field, scene));
            }
            trueIn(withPaidNotes(field));
            trueIn(withLostGame(field));
            trueIn(withJoinedRuns(field));
            trueIn(withAllThatCanBe(field));
        }
    }

    private static void trueIn(Bounds.Setting setting) {
        Veilbourse x = Bounds.made(setting);
        Check.equal("74: isTrue", x.isTrue(), true);
        Check.equal("74: asked again", x.isTrue(), true);
        Check.that("74: nothing is changed",
                Probe.of(x).equals(Probe.of(Bounds.made(setting))));
    }

    private static Bounds.Setting withPaidNotes(int field) {
        return x -> {
            Bounds.in(field, Scenes::payable).set(x);
            x.pay(0, 0);
            x.pay(3, 1);
            x.split(1, 2, 2);
            x.merge(2, 4);
        };
    }

    /** A wrong claim is sent on to the end, and does not meet the right one. */
    private static Bounds.Setting withLostGame(int field) {
        return x -> {
            Bounds.in(field, Scenes::nothing).set(x);
            x.play(0, 1);
            for (int round = 0; round < 3; round++) {
                x.send(1, 0);
                x.draw(0);
            }
        };
    }

    private static Bounds.Setting withJoinedRuns(int field) {
        return x -> {
            Bounds.in(field, Scenes::answered).set(x);
            x.fold(0, 1, 2, 0);
            x.batch(1, 2, 2, 1);
            x.fold(2, 3, 1, 2);
            x.simulate(0, 2, 1, 2);
            x.simulate(2, 1, 0, 0);
        };
    }

    private static Bounds.Setting withAllThatCanBe(int field) {
        return x -> {
            Bounds.in(field, Scenes::payable).set(x);
            x.state(3, x.told(2, 0), 7, x.told(2, 1));
            x.open(3, 2, 1);
            x.dare(3, (x.told(2, 4) + 1) % 3);
            x.reply(3, 5, 1);
            x.chooseBit(0, 1, 2);
            x.hideBit(0, 1, 2, 1);
            x.dareBit(0, 2);
            x.gate(0, 0, 1, 2);
            x.gate(4, 3, 4, 0);
            x.play(3, 2);
            x.send(2, 0);
            x.draw(2);
            x.pay(1, 1);
            x.powers(2, 6);
            x.breaks(5, 1, 3, 7);
        };
    }
}
