import java.util.ArrayList;
import java.util.List;

/**
 * The lists of parameters: of each parameter with a range the last values that are allowed and the
 * first ones that are not, on both sides, in the least field, the first one and the greatest; each
 * refusal alone, and two at a time; and each call in the states in which it is refused.
 */
final class Ranges {

    private static final int LEAST = Integer.MIN_VALUE;
    private static final int MOST = Integer.MAX_VALUE;
    private static final int[] PRIMES = {3, 5, 7, 11, 13, 17, 19, 23};
    private static final int[] MODULI = {7, 11, 29, 23, 53, 103, 191, 47};

    /** What a parameter may be. */
    private enum Kind {
        ROW, PLACE, STEP, RUN, PAIR, NOTE, NUMBER, SEAL, BIT, WHAT, BIT_WHAT, MANY, GAMES, FIELD,
        BASE, MEMBER, ANY, FLAG, FIXED
    }

    private record Parameter(Kind kind, Object good) {
    }

    /** A call that answers in its scene, also with the last values of each range. */
    private static final class Spec {
        final int promise;
        final String name;
        final Scenes.Scene scene;
        final List<Parameter> parameters = new ArrayList<>();
        final List<Scenes.Scene> refusing = new ArrayList<>();
        int firstField = 0;

        Spec(int promise, String name, Scenes.Scene scene) {
            this.promise = promise;
            this.name = name;
            this.scene = scene;
        }

        Spec with(Kind kind, Object good) {
            parameters.add(new Parameter(kind, good));
            return this;
        }

        Spec with(Kind kind, Object... goods) {
            for (Object good : goods) {
                with(kind, good);
            }
            return this;
        }

        Spec refusedIn(Scenes.Scene... scenes) {
            refusing.addAll(List.of(scenes));
            return this;
        }

        Spec fromField(int field) {
            firstField = field;
            return this;
        }

        Object[] good() {
            return parameters.stream().map(Parameter::good).toArray();
        }
    }

    private Ranges() {
    }

    static void all() {
        List<Spec> specs = new ArrayList<>();
        addRows(specs);
        addMoreRows(specs);
        addCommitments(specs);
        addSeals(specs);
        addRuns(specs);
        addMoreRuns(specs);
        addBits(specs);
        addGates(specs);
        addGames(specs);
        addNotes(specs);
        for (Spec spec : specs) {
            Check.equal(spec.name + " has all parameters", spec.parameters.size(),
                    Hand.parametersOf(spec.name));
            for (int field = spec.firstField; field < 8; field++) {
                inside(spec, field);
            }
            for (int field : new int[] {spec.firstField, Math.max(2, spec.firstField), 7}) {
                outside(spec, field);
                twoOutside(spec, field);
                inOtherStates(spec, field);
            }
        }
    }

    private static Spec spec(int promise, String name, Scenes.Scene scene) {
        return new Spec(promise, name, scene);
    }

    // The lists of the document.

    private static void addRows(List<Spec> all) {
        all.add(spec(2, "field", Scenes::rows).with(Kind.FIELD, 2));
        all.add(spec(4, "put", Scenes::rows).with(Kind.ROW, 1).with(Kind.PLACE, 2)
                .with(Kind.NUMBER, 1));
        all.add(spec(5, "fill", Scenes::rows).with(Kind.ROW, 1)
                .with(Kind.ANY, 1, 2, 3, 4, 5, 6, 7, 8));
        all.add(spec(6, "get", Scenes::rows).with(Kind.ROW, 1).with(Kind.PLACE, 2));
        all.add(spec(7, "degree", Scenes::rows).with(Kind.ROW, 1));
        all.add(spec(8, "value", Scenes::rows).with(Kind.ROW, 1).with(Kind.NUMBER, 2));
        all.add(spec(9, "inner", Scenes::rows).with(Kind.ROW, 1, 2));
        all.add(spec(10, "mix", Scenes::rows).with(Kind.ROW, 1, 2).with(Kind.NUMBER, 2)
                .with(Kind.ROW, 3));
        all.add(spec(11, "times", Scenes::rowsOfDegreeThree).with(Kind.ROW, 1, 2, 3)
                .refusedIn(Scenes::rowsOfDegreeFour));
        all.add(spec(12, "divide", Scenes::rowsOfDegreeThree).with(Kind.ROW, 1, 2, 3, 4));
    }

    private static void addMoreRows(List<Spec> all) {
        all.add(spec(13, "through", Scenes::rowsOfPoints).with(Kind.ROW, 1, 2).with(Kind.MANY, 5)
                .with(Kind.ROW, 3).fromField(3));
        all.add(spec(14, "powers", Scenes::rows).with(Kind.NUMBER, 2).with(Kind.ROW, 3));
        all.add(spec(15, "isMixed", Scenes::rows).with(Kind.ROW, 1, 2));
        all.add(spec(16, "meets", Scenes::rows).with(Kind.ROW, 1, 2));
    }

    private static void addCommitments(List<Spec> all) {
        all.add(spec(17, "base", Scenes::rows).with(Kind.BASE, 3));
        all.add(spec(18, "isMember", Scenes::rows).with(Kind.ANY, 1));
        all.add(spec(19, "log", Scenes::rows).with(Kind.MEMBER, 1));
        all.add(spec(20, "commit", Scenes::rows).with(Kind.ROW, 1).with(Kind.NUMBER, 2));
        all.add(spec(21, "isOpened", Scenes::rows).with(Kind.MEMBER, 1).with(Kind.ROW, 1)
                .with(Kind.NUMBER, 2));
        all.add(spec(22, "breaks", Scenes::rows).with(Kind.ROW, 1).with(Kind.NUMBER, 2)
                .with(Kind.PLACE, 3).with(Kind.ROW, 4));
    }

    private static void addSeals(List<Spec> all) {
        all.add(spec(23, "seal", Scenes::rows).with(Kind.SEAL, 10, 20));
        all.add(spec(24, "twin", Scenes::rows).with(Kind.SEAL, 10, 20));
        all.add(spec(25, "root", Scenes::rows).with(Kind.ROW, 1));
        all.add(spec(26, "beside", Scenes::rows).with(Kind.ROW, 1).with(Kind.PLACE, 2)
                .with(Kind.STEP, 1));
        all.add(spec(27, "climb", Scenes::rows).with(Kind.PLACE, 2).with(Kind.NUMBER, 1)
                .with(Kind.SEAL, 10, 20, 30));
        all.add(spec(28, "parts", Scenes::rows).with(Kind.PLACE, 2).with(Kind.NUMBER, 1)
                .with(Kind.SEAL, 10, 20, 30).with(Kind.NUMBER, 1).with(Kind.SEAL, 10, 20, 30));
    }

    private static void addRuns(List<Spec> all) {
        all.add(spec(29, "state", Scenes::answered).with(Kind.RUN, 1).with(Kind.MEMBER, 1)
                .with(Kind.ROW, 2).with(Kind.NUMBER, 1));
        all.add(spec(30, "open", Scenes::stated).with(Kind.RUN, 1).with(Kind.ROW, 2)
                .with(Kind.NUMBER, 1).refusedIn(Scenes::rows, Scenes::opened, Scenes::said,
                        Scenes::dared, Scenes::answered, Scenes::simulated));
        all.add(spec(31, "say", Scenes::stated).with(Kind.RUN, 1).with(Kind.MEMBER, 1)
                .with(Kind.NUMBER, 1).refusedIn(Scenes::rows, Scenes::opened, Scenes::said,
                        Scenes::dared, Scenes::answered, Scenes::simulated));
        all.add(spec(32, "dare", Scenes::opened).with(Kind.RUN, 1).with(Kind.NUMBER, 1)
                .refusedIn(Scenes::rows, Scenes::stated, Scenes::dared, Scenes::asked,
                        Scenes::saidAndDared, Scenes::answered, Scenes::simulated));
        all.add(spec(33, "ask", Scenes::opened).with(Kind.RUN, 1).refusedIn(Scenes::rows,
                Scenes::stated, Scenes::dared, Scenes::asked, Scenes::saidAndDared,
                Scenes::answered, Scenes::simulated));
        all.add(spec(34, "reply", Scenes::dared).with(Kind.RUN, 1).with(Kind.ROW, 1)
                .with(Kind.NUMBER, 2).refusedIn(Scenes::rows, Scenes::stated, Scenes::opened,
                        Scenes::said, Scenes::saidAndDared, Scenes::answered, Scenes::simulated));
        all.add(spec(35, "tell", Scenes::dared).with(Kind.RUN, 1).with(Kind.ROW, 1)
                .with(Kind.NUMBER, 2).refusedIn(Scenes::rows, Scenes::stated, Scenes::opened,
                        Scenes::said, Scenes::answered, Scenes::toldWrongly, Scenes::simulated));
        all.add(spec(36, "isAccepted", Scenes::answered).with(Kind.RUN, 1));
        all.add(spec(37, "simulate", Scenes::stated).with(Kind.RUN, 1).with(Kind.NUMBER, 1)
                .with(Kind.ROW, 1).with(Kind.NUMBER, 2).refusedIn(Scenes::rows, Scenes::opened,
                        Scenes::said, Scenes::dared, Scenes::answered, Scenes::simulated));
        all.add(spec(38, "extract", Scenes::answered).with(Kind.RUN, 1, 2).with(Kind.ROW, 3)
                .refusedIn(Scenes::rows, Scenes::stated, Scenes::dared, Scenes::toldWrongly,
                        Scenes::simulated));
    }

    private static void addMoreRuns(List<Spec> all) {
        all.add(spec(39, "maskFor", Scenes::answeredWithRowsAlike).with(Kind.RUN, 1)
                .with(Kind.ROW, 1).with(Kind.NUMBER, 2).with(Kind.ROW, 4).refusedIn(Scenes::rows,
                        Scenes::stated, Scenes::opened, Scenes::dared, Scenes::toldWrongly));
        all.add(spec(40, "fits", Scenes::stated).with(Kind.RUN, 1).with(Kind.ROW, 1)
                .with(Kind.NUMBER, 2).refusedIn(Scenes::rows));
        all.add(spec(41, "challenges", Scenes::opened).with(Kind.RUN, 1)
                .refusedIn(Scenes::rows, Scenes::stated));
        all.add(spec(42, "told", Scenes::answered).with(Kind.RUN, 1).with(Kind.WHAT, 2));
        all.add(spec(43, "form", Scenes::answered).with(Kind.RUN, 1).with(Kind.PLACE, 2)
                .with(Kind.FLAG, false).refusedIn(Scenes::rows));
        all.add(spec(43, "form", Scenes::answered).with(Kind.RUN, 1).with(Kind.PLACE, 2)
                .with(Kind.FLAG, true).refusedIn(Scenes::rows, Scenes::stated, Scenes::opened,
                        Scenes::dared, Scenes::saidAndDared));
        all.add(spec(44, "fold", Scenes::stated).with(Kind.RUN, 1, 2).with(Kind.NUMBER, 2)
                .with(Kind.RUN, 3).refusedIn(Scenes::rows));
        all.add(spec(45, "batch", Scenes::stated).with(Kind.RUN, 1, 2).with(Kind.NUMBER, 2)
                .with(Kind.RUN, 3).refusedIn(Scenes::rows));
        all.add(spec(46, "factors", Scenes::stated).with(Kind.RUN, 1, 2).with(Kind.ROW, 1)
                .with(Kind.FLAG, true).with(Kind.ROW, 2).refusedIn(Scenes::rows));
        all.add(spec(46, "factors", Scenes::stated).with(Kind.RUN, 1, 2).with(Kind.ROW, 1)
                .with(Kind.FLAG, false).with(Kind.ROW, 2).refusedIn(Scenes::rows));
    }

    private static void addBits(List<Spec> all) {
        all.add(spec(47, "chooseBit", Scenes::bitsDared).with(Kind.PAIR, 1).with(Kind.BIT, 1)
                .with(Kind.NUMBER, 2));
        all.add(spec(48, "hideBit", Scenes::chosen).with(Kind.PAIR, 1).with(Kind.NUMBER, 1, 2, 1)
                .refusedIn(Scenes::rows, Scenes::hidden, Scenes::bitsDared));
        all.add(spec(49, "dareBit", Scenes::hidden).with(Kind.PAIR, 1).with(Kind.NUMBER, 1)
                .refusedIn(Scenes::rows, Scenes::chosen, Scenes::bitsDared));
        all.add(spec(50, "isBitAccepted", Scenes::bitsDared).with(Kind.PAIR, 1));
        all.add(spec(51, "bitTold", Scenes::bitsDared).with(Kind.PAIR, 1).with(Kind.BIT, 0)
                .with(Kind.BIT_WHAT, 1).refusedIn(Scenes::rows, Scenes::chosen, Scenes::hidden));
        all.add(spec(52, "bitLike", Scenes::bitsDared).with(Kind.PAIR, 1).with(Kind.BIT, 0)
                .refusedIn(Scenes::rows, Scenes::chosen, Scenes::hidden));
    }

    private static void addGates(List<Spec> all) {
        for (int kind = 0; kind < 2; kind++) {
            all.add(spec(53, "gate", Scenes::sevenGates).with(Kind.FIXED, kind)
                    .with(Kind.PLACE, 1, 2, 3).refusedIn(Scenes::eightGates));
        }
        all.add(spec(53, "gate", Scenes::sevenGates).with(Kind.FIXED, 2).with(Kind.PLACE, 1)
                .with(Kind.NUMBER, 2).with(Kind.ANY, 3).refusedIn(Scenes::eightGates));
        all.add(spec(53, "gate", Scenes::sevenGates).with(Kind.FIXED, 3).with(Kind.PLACE, 1)
                .with(Kind.ANY, 2, 3).refusedIn(Scenes::eightGates));
        all.add(spec(53, "gate", Scenes::sevenGates).with(Kind.FIXED, 4).with(Kind.PLACE, 1)
                .with(Kind.ROW, 2).with(Kind.ANY, 3).refusedIn(Scenes::eightGates));
        all.add(spec(54, "ungate", Scenes::eightGates));
        all.add(spec(55, "fails", Scenes::eightGates).with(Kind.ROW, 1));
        all.add(spec(56, "faults", Scenes::eightGates).with(Kind.ROW, 1, 2));
        all.add(spec(57, "spots", Scenes::eightGates).with(Kind.ROW, 1));
    }

    private static void addGames(List<Spec> all) {
        all.add(spec(58, "total", Scenes::rows).with(Kind.ROW, 1));
        all.add(spec(59, "extend", Scenes::rows).with(Kind.ROW, 1).with(Kind.NUMBER, 2, 1, 2));
        all.add(spec(60, "play", Scenes::drawn).with(Kind.ROW, 1).with(Kind.NUMBER, 2));
        all.add(spec(61, "send", Scenes::played).with(Kind.NUMBER, 1, 2).refusedIn(Scenes::rows,
                Scenes::sent, Scenes::lastSent, Scenes::over));
        all.add(spec(62, "draw", Scenes::sent).with(Kind.NUMBER, 1).refusedIn(Scenes::rows,
                Scenes::played, Scenes::drawn, Scenes::over));
        all.add(spec(63, "honest", Scenes::drawn).refusedIn(Scenes::rows, Scenes::sent,
                Scenes::lastSent, Scenes::over));
        all.add(spec(64, "isWon", Scenes::over).refusedIn(Scenes::rows));
        all.add(spec(65, "chances", Scenes::lastSent).refusedIn(Scenes::rows));
    }

    private static void addNotes(List<Spec> all) {
        all.add(spec(66, "mint", Scenes::fifteenNotes).with(Kind.NUMBER, 1, 2)
                .refusedIn(Scenes::sixteenNotes, Scenes::sixteenNotesMostSpent));
        all.add(spec(67, "split", Scenes::fourNotes).with(Kind.NOTE, 1).with(Kind.NUMBER, 1, 2)
                .refusedIn(Scenes::fourSpentNotes, Scenes::fifteenNotes, Scenes::sixteenNotes));
        all.add(spec(68, "merge", Scenes::fourNotes).with(Kind.NOTE, 1, 2)
                .refusedIn(Scenes::fourSpentNotes, Scenes::sixteenNotes));
        all.add(spec(69, "note", Scenes::fourNotes).with(Kind.NOTE, 1));
        all.add(spec(70, "pay", Scenes::payable).with(Kind.NOTE, 1).with(Kind.RUN, 1)
                .refusedIn(Scenes::fourNotes, Scenes::fourSpentNotes));
        all.add(spec(72, "risk", Scenes::rows).with(Kind.GAMES, 5));
    }

    // What the ranges are.

    private static Class<?> dueOf(Kind kind) {
        switch (kind) {
            case ROW:
            case PLACE:
            case STEP:
            case RUN:
            case PAIR:
            case NOTE:
                return Check.INDEX;
            default:
                return Check.ARGUMENT;
        }
    }

    private static int least(Kind kind) {
        return kind == Kind.MANY || kind == Kind.GAMES ? 1 : 0;
    }

    private static int most(Kind kind, int p) {
        switch (kind) {
            case ROW:
            case PLACE:
            case FIELD:
                return 7;
            case STEP:
            case BIT_WHAT:
                return 2;
            case RUN:
            case NOTE:
                return 3;
            case PAIR:
            case BIT:
                return 1;
            case NUMBER:
                return p - 1;
            case SEAL:
                return 250;
            case WHAT:
                return 6;
            case MANY:
            case BASE:
                return 8;
            default:
                return 30;
        }
    }

    private static Object[] insideOf(Kind kind, int field) {
        switch (kind) {
            case FLAG:
            case FIXED:
                return new Object[0];
            case ANY:
                return new Object[] {LEAST, -1, 0, MOST};
            case MEMBER:
                return new Object[] {1, memberOf(field, 1), memberOf(field, PRIMES[field] - 1)};
            default:
                return new Object[] {least(kind), most(kind, PRIMES[field])};
        }
    }

    /** The first value beside the range is told first on each side, then the outermost one. */
    private static Object[] outsideOf(Kind kind, int field) {
        int q = MODULI[field];
        switch (kind) {
            case FLAG:
            case FIXED:
            case ANY:
                return new Object[0];
            case MEMBER:
                return new Object[] {0, q, -1, q - 1, q + 1, 1 - q, LEAST, MOST};
            default:
                return new Object[] {least(kind) - 1, most(kind, PRIMES[field]) + 1, LEAST, MOST};
        }
    }

    /** The powers of the least number that is one of the powers of order p, not 1. */
    private static int memberOf(int field, int exponent) {
        int q = MODULI[field];
        int generator = 1;
        for (int a = 2; generator == 1; a++) {
            generator = power(a, (q - 1) / PRIMES[field], q);
        }
        return power(generator, exponent, q);
    }

    private static int power(int y, int exponent, int q) {
        int product = 1;
        for (int i = 0; i < exponent; i++) {
            product = product * y % q;
        }
        return product;
    }

    // What is tried.

    private static Object[] changed(Object[] arguments, int i, Object value) {
        Object[] made = arguments.clone();
        made[i] = value;
        return made;
    }

    private static String told(Spec spec, int field, Object... arguments) {
        StringBuilder told = new StringBuilder(spec.name);
        for (Object argument : arguments) {
            told.append(' ').append(argument);
        }
        return told.append(" in the field ").append(PRIMES[field]).toString();
    }

    /** The last values that are allowed have the answers of the model. */
    private static void inside(Spec spec, int field) {
        asModel(spec, field, spec.good());
        for (int i = 0; i < spec.parameters.size(); i++) {
            for (Object value : insideOf(spec.parameters.get(i).kind, field)) {
                asModel(spec, field, changed(spec.good(), i, value));
                Bounds.note(spec.promise + " allows " + i);
            }
        }
    }

    private static void asModel(Spec spec, int field, Object... arguments) {
        Veilbourse x = new Veilbourse();
        Hand hand = new Hand(x);
        Hand model = new Hand(new Model());
        for (Hand led : new Hand[] {hand, model}) {
            led.call("field", field);
            spec.scene.set(led);
        }
        String what = told(spec, field, arguments);
        Object got = hand.ask(spec.name, arguments);
        Object due = model.ask(spec.name, arguments);
        Check.equal(what, got, due);
        Check.that(what + " is in the ranges", got != Check.INDEX && got != Check.ARGUMENT);
        Check.equal(what + " then", hand.ask("checksum"), model.ask("checksum"));
        Check.that("the scene is short", hand.calls() < 110);
    }

    private static void outside(Spec spec, int field) {
        for (int i = 0; i < spec.parameters.size(); i++) {
            Kind kind = spec.parameters.get(i).kind;
            for (Object value : outsideOf(kind, field)) {
                Object[] arguments = changed(spec.good(), i, value);
                Bounds.refused(spec.promise, dueOf(kind), told(spec, field, arguments),
                        Bounds.in(field, spec.scene),
                        x -> new Hand(x).ask(spec.name, arguments));
                Bounds.note(spec.promise + " refuses " + i);
            }
        }
    }

    private static void twoOutside(Spec spec, int field) {
        for (int i = 0; i < spec.parameters.size(); i++) {
            for (int j = 0; j < i; j++) {
                Kind kind = spec.parameters.get(i).kind;
                Kind other = spec.parameters.get(j).kind;
                Object[] outside = outsideOf(kind, field);
                Object[] otherOutside = outsideOf(other, field);
                for (int n = 0; n < 4 && outside.length > 0 && otherOutside.length > 0; n++) {
                    Object[] arguments = changed(spec.good(), i, outside[n % 2]);
                    arguments[j] = otherOutside[n / 2];
                    bothApply(spec, field, dueOf(kind), dueOf(other), arguments);
                }
            }
        }
    }

    private static void bothApply(Spec spec, int field, Class<?> due, Class<?> other,
            Object... arguments) {
        boolean isIndex = due == Check.INDEX || other == Check.INDEX;
        Class<?> first = isIndex ? Check.INDEX : Check.ARGUMENT;
        Class<?> later = first == due ? other : due;
        Bounds.first(spec.promise, first, later, told(spec, field, arguments),
                Bounds.in(field, spec.scene), x -> new Hand(x).ask(spec.name, arguments));
    }

    /** In a state in which the call is refused a wrong argument is told first. */
    private static void inOtherStates(Spec spec, int field) {
        for (int n = 0; n < spec.refusing.size(); n++) {
            Scenes.Scene scene = spec.refusing.get(n);
            Bounds.refused(spec.promise, Check.STATE,
                    told(spec, field, spec.good()) + " in the other state " + n,
                    Bounds.in(field, scene), x -> new Hand(x).ask(spec.name, spec.good()));
            for (int i = 0; i < spec.parameters.size(); i++) {
                Kind kind = spec.parameters.get(i).kind;
                Object[] outside = outsideOf(kind, field);
                for (int side = 0; side < 2 && outside.length > 0; side++) {
                    // There are more notes in some of these states: then 16 is none.
                    Object value = kind == Kind.NOTE && side == 1 ? 16 : outside[side];
                    Object[] arguments = changed(spec.good(), i, value);
                    Bounds.first(spec.promise, dueOf(kind), Check.STATE,
                            told(spec, field, arguments) + " in the other state " + n,
                            Bounds.in(field, scene), x -> new Hand(x).ask(spec.name, arguments));
                }
            }
        }
    }
}
