/** The boundary cases of the promises 47 to 57: bits and circuits. */
final class GateBoundaries {

    private static final int[] PRIMES = {3, 5, 7, 11, 13, 17, 19, 23};
    private static final int LEAST = Integer.MIN_VALUE;
    private static final int MOST = Integer.MAX_VALUE;
    /** The powers of B in the first field; G0 and H are B itself. */
    private static final int[] M = {1, 16, 24, 7, 25, 23, 20};

    private GateBoundaries() {
    }

    static void all() {
        chooseBit();
        chooseBitAnew();
        hideBit();
        dareBit();
        isBitAccepted();
        bitTold();
        bitLike();
        gateFull();
        gateKinds();
        gateOrder();
        ungate();
        fails();
        faultsOfEachKind();
        faultsOfTables();
        faultsInOrder();
        faultsIntoItself();
        spots();
    }

    // 47: both bits with the least and the greatest blind number.
    private static void chooseBit() {
        for (int pair = 0; pair < 2; pair++) {
            int chosen = pair;
            for (int n = 0; n < 4; n++) {
                int bit = n / 2;
                int blind = n % 2 * 6;
                Bounds.answers(47, "y of " + bit + " and " + blind, M[(bit + blind) % 7],
                        Bounds.in(Scenes::nothing), x -> x.chooseBit(chosen, bit, blind));
            }
        }
    }

    // 47: anew at each stage; the other pair stays.
    private static void chooseBitAnew() {
        Scenes.Scene[] stages = {Scenes::chosen, Scenes::hidden, Scenes::bitsDared};
        for (Scenes.Scene stage : stages) {
            Bounds.Setting anew = x -> {
                Bounds.in(stage).set(x);
                x.chooseBit(0, 1, 6);
            };
            Bounds.answers(47, "not accepted", false, anew, x -> x.isBitAccepted(0));
            Bounds.refused(51, Check.STATE, "nothing is told", anew, x -> x.bitTold(0, 0, 0));
            Bounds.refused(49, Check.STATE, "no first messages", anew, x -> x.dareBit(0, 0));
            Bounds.answers(47, "the new bit and blind number", (3 + 2 * 6) % 7, anew, x -> {
                x.hideBit(0, 3, 4, 5);
                return x.dareBit(0, 6);
            });
        }
        Bounds.answers(47, "the other pair stays", true, x -> {
            Bounds.in(Scenes::bitsDared).set(x);
            x.chooseBit(0, 1, 6);
        }, x -> x.isBitAccepted(1));
    }

    private static Bounds.Setting chosen(int bit, int blind) {
        return x -> x.chooseBit(1, bit, blind);
    }

    /** The exponent of the first message of the other side: t less c times that of its Y. */
    private static int otherFirst(int bit, int blind, int c, int t) {
        int shown = bit == 0 ? blind - 1 : 1 + blind;
        return Math.floorMod(t - c * shown, 7);
    }

    // 48 and 49: the least and the greatest mask, challenge and answer, for both bits.
    private static void hideBit() {
        int[] ends = {0, 6};
        for (int n = 0; n < 32; n++) {
            int bit = n % 2;
            int blind = ends[n / 2 % 2];
            int mask = ends[n / 4 % 2];
            int c = ends[n / 8 % 2];
            int t = ends[n / 16];
            int other = M[otherFirst(bit, blind, c, t)];
            int due = bit == 0 ? 191 * M[mask] + other : 191 * other + M[mask];
            Bounds.answers(48, "first messages of " + n, due, chosen(bit, blind),
                    x -> x.hideBit(1, mask, c, t));
            Bounds.answers(48, "no challenge yet", Check.STATE, chosen(bit, blind), x -> {
                x.hideBit(1, mask, c, t);
                return Probe.outcome(() -> x.bitTold(1, 0, 0));
            });
        }
        Bounds.answers(48, "the greatest members", true, x -> {
            x.field(6);
            x.chooseBit(0, 0, 1);
        }, x -> {
            int told = x.hideBit(0, 18, 18, 18);
            return x.isMember(told / 191) && x.isMember(told % 191);
        });
    }

    private static void dareBit() {
        for (int c = 0; c < 7; c++) {
            for (int other = 0; other < 7; other += 6) {
                int dared = c;
                int told = other;
                int own = Math.floorMod(c - other, 7);
                for (int bit = 0; bit < 2; bit++) {
                    int side = bit;
                    Bounds.Setting hidden = x -> {
                        x.chooseBit(0, side, 6);
                        x.hideBit(0, 5, told, 4);
                    };
                    Bounds.answers(49, "the answer to " + c, (5 + own * 6) % 7, hidden,
                            x -> x.dareBit(0, dared));
                    Bounds.answers(49, "the challenge of the side of the bit", own, hidden, x -> {
                        x.dareBit(0, dared);
                        return x.bitTold(0, side, 1);
                    });
                    Bounds.answers(49, "the other side stays", told + " 4", hidden, x -> {
                        x.dareBit(0, dared);
                        return x.bitTold(0, 1 - side, 1) + " " + x.bitTold(0, 1 - side, 2);
                    });
                    Bounds.answers(49, "it is accepted", true, hidden, x -> {
                        x.dareBit(0, dared);
                        return x.isBitAccepted(0);
                    });
                }
            }
        }
    }

    // 50: only with answers.
    private static void isBitAccepted() {
        Scenes.Scene[] without = {Scenes::rows, Scenes::chosen, Scenes::hidden};
        for (Scenes.Scene scene : without) {
            for (int field = 0; field < 8; field++) {
                Bounds.answers(50, "no answers", false, Bounds.in(field, scene),
                        x -> x.isBitAccepted(0) || x.isBitAccepted(1));
            }
        }
        for (int field = 0; field < 8; field++) {
            Bounds.answers(50, "answers", true, Bounds.in(field, Scenes::bitsDared),
                    x -> x.isBitAccepted(0) && x.isBitAccepted(1));
        }
        Bounds.answers(50, "noughts that were not told", false, x -> {
            x.chooseBit(0, 0, 0);
            x.hideBit(0, 0, 0, 0);
        }, x -> x.isBitAccepted(0));
    }

    // 51: each side and each number of it.
    private static void bitTold() {
        Bounds.Setting dared = x -> {
            x.chooseBit(1, 0, 6);
            x.hideBit(1, 5, 6, 4);
            x.dareBit(1, 0);
        };
        // The side 0 gets 0 less 6, which is 1, and answers 5 and 6; the side 1 has shown 6 - 1.
        int[] due = {M[5], 1, 11 % 7, M[Math.floorMod(4 - 6 * 5, 7)], 6, 4};
        for (int n = 0; n < 6; n++) {
            int side = n / 3;
            int what = n % 3;
            Bounds.answers(51, "told " + side + " " + what, due[n], dared,
                    x -> x.bitTold(1, side, what));
        }
        Bounds.refused(51, Check.STATE, "the other pair has none", dared,
                x -> x.bitTold(0, 1, 2));
        Bounds.refused(51, Check.ARGUMENT, "side and what are out of range", dared,
                x -> x.bitTold(1, 2, 3));
        Bounds.first(51, Check.ARGUMENT, Check.STATE, "all but the pair is wrong", dared,
                x -> x.bitTold(0, -1, 3));
    }

    // 52: one for either bit, in each field.
    private static void bitLike() {
        for (int field = 0; field < 8; field++) {
            int taken = field;
            int most = PRIMES[field] - 1;
            for (int n = 0; n < 16; n++) {
                int bit = n % 2;
                int blind = n / 2 % 2 * most;
                int c = n / 4 % 2 * most;
                int dared = n / 8 * most;
                Bounds.answers(52, "as many for 0 as for 1", "1 1", x -> {
                    x.field(taken);
                    x.chooseBit(0, bit, blind);
                    x.hideBit(0, most, c, 1);
                    x.dareBit(0, dared);
                }, x -> x.bitLike(0, 0) + " " + x.bitLike(0, 1));
            }
        }
    }

    // 53: at most eight.
    private static void gateFull() {
        for (int many = 0; many < 8; many++) {
            int before = many;
            Bounds.answers(53, "behind " + many, many + 1, gates(before),
                    x -> x.gate(3, 7, 0, 0));
        }
        int[][] kinds = {{0, 7, 7}, {1, 7, 7}, {2, 6, 0}, {3, 0, 0}, {4, 7, 0}};
        for (int[] n : kinds) {
            Bounds.answers(53, "the eighth of the kind " + n[0], 8, gates(7),
                    x -> x.gate(n[0], 7, n[1], n[2]));
            Bounds.note("53 allows 0");
            Bounds.refused(53, Check.STATE, "the ninth of the kind " + n[0], gates(8),
                    x -> x.gate(n[0], 7, n[1], n[2]));
        }
        Bounds.answers(53, "there is room after ungate", 1, gates(8), x -> {
            x.ungate();
            return x.gate(3, 0, 0, 0);
        });
    }

    private static Bounds.Setting gates(int many) {
        return x -> {
            for (int i = 0; i < many; i++) {
                x.gate(3, i, 0, 0);
            }
        };
    }

    // 53: the kinds are 0 to 4; what is not looked at may be anything.
    private static void gateKinds() {
        int[] none = {-1, 5, LEAST, MOST};
        int[] anything = {-1, 8, LEAST, MOST};
        for (int kind : none) {
            Bounds.refused(53, Check.ARGUMENT, "the kind " + kind, gates(0),
                    x -> x.gate(kind, 0, 0, 0));
            Bounds.note("53 refuses 0");
            for (int n : anything) {
                Bounds.refused(53, Check.ARGUMENT, "the kind " + kind + ", b and c not looked at",
                        gates(0), x -> x.gate(kind, 7, n, n));
                Bounds.first(53, Check.INDEX, Check.ARGUMENT, "the kind " + kind + ", no place",
                        gates(0), x -> x.gate(kind, n, 0, 0));
            }
        }
        for (int n : anything) {
            Bounds.answers(53, "constant, c " + n, 1, gates(0), x -> x.gate(2, 0, 0, n));
            Bounds.answers(53, "bit, b and c " + n, 1, gates(0), x -> x.gate(3, 0, n, n));
            Bounds.answers(53, "table, c " + n, 1, gates(0), x -> x.gate(4, 0, 0, n));
        }
        for (int field = 0; field < 8; field++) {
            int taken = field;
            int p = PRIMES[field];
            Bounds.answers(53, "the constant " + (p - 1), 1, x -> x.field(taken),
                    x -> x.gate(2, 0, p - 1, 0));
            Bounds.refused(53, Check.ARGUMENT, "the constant " + p, x -> x.field(taken),
                    x -> x.gate(2, 0, p, 0));
            Bounds.refused(53, Check.ARGUMENT, "the constant -1", x -> x.field(taken),
                    x -> x.gate(2, 0, -1, 0));
        }
    }

    // 53: several exceptions at a time.
    private static void gateOrder() {
        Bounds.first(53, Check.INDEX, Check.ARGUMENT, "no place, no constant", gates(0),
                x -> x.gate(2, 8, 7, 0));
        Bounds.first(53, Check.INDEX, Check.STATE, "the ninth, no place", gates(8),
                x -> x.gate(3, 8, 0, 0));
        Bounds.first(53, Check.INDEX, Check.STATE, "the ninth, no second place", gates(8),
                x -> x.gate(0, 0, 8, 0));
        Bounds.first(53, Check.INDEX, Check.STATE, "the ninth, no third place", gates(8),
                x -> x.gate(1, 0, 0, 8));
        Bounds.first(53, Check.INDEX, Check.STATE, "the ninth, no row", gates(8),
                x -> x.gate(4, 0, 8, 0));
        Bounds.first(53, Check.ARGUMENT, Check.STATE, "the ninth, no kind", gates(8),
                x -> x.gate(5, 0, 0, 0));
        Bounds.first(53, Check.ARGUMENT, Check.STATE, "the ninth, no kind below", gates(8),
                x -> x.gate(-1, 0, 0, 0));
        Bounds.first(53, Check.ARGUMENT, Check.STATE, "the ninth, no constant", gates(8),
                x -> x.gate(2, 0, 7, 0));
        Bounds.first(53, Check.INDEX, Check.ARGUMENT, "the ninth, neither place nor kind",
                gates(8), x -> x.gate(5, -1, 0, 0));
    }

    // 54: none, some and all.
    private static void ungate() {
        for (int many = 0; many <= 8; many++) {
            int before = many;
            Bounds.answers(54, "of " + many, many, gates(before), x -> x.ungate());
            Bounds.answers(54, "none is left of " + many, 0, gates(before), x -> {
                x.ungate();
                return x.ungate();
            });
            Bounds.answers(54, "none fails of " + many, -1, gates(before), x -> {
                x.ungate();
                x.fill(0, 5, 5, 5, 5, 5, 5, 5, 5);
                return x.fails(0);
            });
        }
    }

    // 55: the first to fail, from the first to the last gate.
    private static void fails() {
        for (int gate = 0; gate < 8; gate++) {
            int only = gate;
            Bounds.Setting one = x -> {
                gates(8).set(x);
                x.put(0, only, 2);
            };
            Bounds.answers(55, "only " + gate, gate, one, x -> x.fails(0));
            Bounds.answers(55, "all from " + gate, gate, x -> {
                gates(8).set(x);
                for (int i = only; i < 8; i++) {
                    x.put(0, i, 6);
                }
            }, x -> x.fails(0));
            Bounds.answers(55, "behind the last gate", -1, x -> {
                gates(only).set(x);
                x.put(0, only, 2);
            }, x -> x.fails(0));
        }
        Bounds.answers(55, "no gate", -1, Bounds.in(Scenes::rows), x -> x.fails(1));
        Bounds.answers(55, "all hold", -1, gates(8), x -> x.fails(0));
    }

    private static void faultIs(int field, int due, int[] gate, int... values) {
        Bounds.answers(56, "the fault of the kind " + gate[0] + " in the field " + PRIMES[field],
                due, x -> {
                    x.field(field);
                    Bounds.put(x, 3, values);
                    x.gate(gate[0], gate[1], gate[2], gate[3]);
                }, x -> {
                    x.faults(3, 4);
                    return x.get(4, 0);
                });
    }

    // 53 and 56: the least and the greatest numbers.
    private static void faultsOfEachKind() {
        for (int field = 0; field < 8; field++) {
            int p = PRIMES[field];
            int[] sum = {0, 0, 1, 7};
            faultIs(field, 0, sum, 0, 0);
            faultIs(field, p - 2, sum, p - 1, p - 1);
            faultIs(field, 1, sum, 0, 0, 0, 0, 0, 0, 0, p - 1);
            faultIs(field, 0, sum, p - 1, 1, 0, 0, 0, 0, 0, 0);
            int[] product = {1, 7, 0, 3};
            faultIs(field, 0, product, 0, 0);
            faultIs(field, 1, product, p - 1, 0, 0, 0, 0, 0, 0, p - 1);
            faultIs(field, 1, product, 0, 0, 0, p - 1);
            faultIs(field, 0, product, p - 1, 0, 0, 1, 0, 0, 0, p - 1);
            faultIs(field, 1, new int[] {2, 7, p - 1, 0}, 0);
            faultIs(field, p - 1, new int[] {2, 7, 0, 0}, 0, 0, 0, 0, 0, 0, 0, p - 1);
            faultIs(field, 0, new int[] {2, 7, p - 1, 0}, 0, 0, 0, 0, 0, 0, 0, p - 1);
            faultIs(field, 0, new int[] {3, 0, 0, 0}, 0);
            faultIs(field, 0, new int[] {3, 0, 0, 0}, 1);
            faultIs(field, 2, new int[] {3, 0, 0, 0}, p - 1);
        }
        faultIs(2, 2, new int[] {3, 7, 0, 0}, 0, 0, 0, 0, 0, 0, 0, 2);
    }

    // 53: each of the eight numbers of the table counts, as they are when the fault is asked.
    private static void faultsOfTables() {
        for (int place = 0; place < 8; place++) {
            int only = place;
            Bounds.Setting in = x -> {
                x.fill(7, 2, 2, 2, 2, 2, 2, 2, 2);
                x.gate(4, only, 7, 0);
                x.put(0, only, 5);
                x.put(7, only, 5);
            };
            Bounds.answers(53, "in the table at " + place, -1, in, x -> x.fails(0));
            Bounds.answers(53, "not in it any more", 0, in, x -> {
                x.put(7, only, 4);
                return x.fails(0);
            });
            // 5 - 4 times 5 - 2 to the power of 7, which is 3.
            Bounds.answers(53, "the product", 3, in, x -> {
                x.put(7, only, 4);
                x.faults(0, 1);
                return x.get(1, 0);
            });
            Bounds.answers(53, "a row is in itself", -1, x -> {
                x.fill(0, 6, 5, 4, 3, 2, 1, 0, 6);
                x.gate(4, only, 0, 0);
            }, x -> x.fails(0));
        }
    }

    // 56: in order, 0 behind them.
    private static void faultsInOrder() {
        for (int many = 0; many <= 8; many++) {
            int before = many;
            StringBuilder due = new StringBuilder();
            for (int i = 0; i < 8; i++) {
                due.append(i == 0 ? "" : " ").append(i < many ? (i + 1) % 7 : 0);
            }
            Bounds.Setting setting = x -> {
                for (int i = 0; i < before; i++) {
                    x.gate(2, 0, (14 - i) % 7, 0);
                }
                x.put(0, 0, 1);
                x.fill(7, 6, 6, 6, 6, 6, 6, 6, 6);
            };
            Bounds.answers(56, "of " + many, due.toString(), setting, x -> {
                x.faults(0, 7);
                return Bounds.row(x, 7);
            });
            Bounds.answers(56, "how many of " + many, many > 6 ? many - 1 : many, setting,
                    x -> x.faults(0, 7));
        }
    }

    // 56: the row that is made may be the values, or a table.
    private static void faultsIntoItself() {
        Bounds.Setting setting = x -> {
            Bounds.put(x, Bounds.of(3, 4, 5), Bounds.of(3, 1, 1, 1, 1, 1, 1, 1));
            x.gate(2, 0, 0, 0);
            x.gate(4, 0, 1, 0);
            x.gate(4, 1, 1, 0);
            x.gate(2, 2, 0, 0);
        };
        // The last table's product is 4 - 3 times 3 to the power of 7.
        String due = "3 0 3 5 0 0 0 0";
        for (int to = 0; to < 8; to++) {
            int made = to;
            Bounds.answers(56, "into " + to, due, setting, x -> {
                x.faults(0, made);
                return Bounds.row(x, made);
            });
            Bounds.answers(56, "how many into " + to, 3, setting, x -> x.faults(0, made));
        }
        Bounds.answers(56, "values, table and what is made are one", "0 0 0 0 0 0 0 0", x -> {
            x.fill(0, 6, 5, 4, 3, 2, 1, 0, 6);
            for (int i = 0; i < 8; i++) {
                x.gate(4, i, 0, 0);
            }
        }, x -> {
            x.faults(0, 0);
            return Bounds.row(x, 0);
        });
        Bounds.answers(55, "fails makes no row", "3 4 5 0 0 0 0 0", setting, x -> {
            x.fails(0);
            return Bounds.row(x, 0);
        });
        Bounds.answers(57, "spots makes no row", "3 4 5 0 0 0 0 0", setting, x -> {
            x.spots(0);
            return Bounds.row(x, 0);
        });
    }

    // 57: all, none, and the degree.
    private static void spots() {
        for (int field = 0; field < 8; field++) {
            int p = PRIMES[field];
            Bounds.answers(57, "no gate", p, Bounds.in(field, Scenes::rows), x -> x.spots(1));
            spotsAre(field, p, 0, 0, 0, 0, 0, 0, 0, 0);
            spotsAre(field, 0, p - 1, 0, 0, 0, 0, 0, 0, 0);
            spotsAre(field, 1, 0, 0, 0, 0, 0, 0, 0, p - 1);
            spotsAre(field, 1, 1, p - 1, 0, 0, 0, 0, 0, 0);
        }
        // x to the 7 less x is 0 everywhere in the field of 7; 1 more is 0 nowhere.
        spotsAre(2, 7, 0, 6, 0, 0, 0, 0, 0, 1);
        spotsAre(2, 0, 1, 6, 0, 0, 0, 0, 0, 1);
        // 1 and x and so on up to x to the 7 is 0 at the powers of order 8, but not at 1.
        spotsAre(5, 7, 1, 1, 1, 1, 1, 1, 1, 1);
    }

    private static void spotsAre(int field, int due, int... faults) {
        Bounds.answers(57, "spots in the field " + PRIMES[field], due, x -> {
            x.field(field);
            Bounds.put(x, 6, faults);
            for (int i = 0; i < 8; i++) {
                x.gate(2, i, 0, 0);
            }
        }, x -> x.spots(6));
    }
}
