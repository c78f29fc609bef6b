/** A bourse of things that are shown without being told. README.md says how to use it. */
public final class Veilbourse {

    private static final int NONE = -1;
    private static final int PLACES = 8;
    private static final int ROWS = 8;
    private static final int RUNS = 4;
    private static final int PAIRS = 2;
    private static final int BASES = 9;
    private static final int BLIND_BASE = 8;
    private static final int GATES = 8;
    private static final int ROUNDS = 3;
    private static final int NOTES = 16;
    private static final int STEPS = 4;
    private static final int SEALS = 251;
    private static final int MOST_GAMES = 30;
    private static final int PAIR_SCALE = 191;
    private static final int LINE_SCALE = 32;
    private static final int FIRST_P = 7;
    private static final int FIRST_SEAL = 7;
    /** The greatest p is 23, the greatest q is 191. */
    private static final int MOST_NUMBERS = 23;
    private static final int MEMBER_LIMIT = 192;
    private static final int[] PRIMES = {3, 5, 7, 11, 13, 17, 19, 23};

    private final Field field;
    private final Group group;
    private final int[][] rows;
    private final Polynomials polynomials;
    private final Run[] runs;
    private final Pair[] pairs;
    private final Circuit circuit;
    private final Game game;
    private final Ledger ledger;
    private final Tree tree;
    private final Tree otherTree;
    private final Way way;
    private final Way otherWay;
    /** Rows that are used again by each call, so that no call makes objects. */
    private final int[] made;
    private final int[] made2;

    public Veilbourse() {
        field = new Field();
        group = new Group(field);
        rows = new int[ROWS][PLACES];
        polynomials = new Polynomials(field);
        runs = new Run[RUNS];
        for (int i = 0; i < RUNS; i++) {
            runs[i] = new Run(group);
        }
        pairs = new Pair[PAIRS];
        for (int i = 0; i < PAIRS; i++) {
            pairs[i] = new Pair(group);
        }
        circuit = new Circuit(field, rows);
        game = new Game(field);
        ledger = new Ledger(group);
        tree = new Tree();
        otherTree = new Tree();
        way = new Way();
        otherWay = new Way();
        made = new int[PLACES];
        made2 = new int[PLACES];
    }

    // The field.

    public int field(int number) throws IllegalArgumentException {
        if (number < 0 || number >= PRIMES.length) {
            throw new IllegalArgumentException("there is no such field");
        }
        field.p = PRIMES[number];
        group.build();
        for (int i = 0; i < ROWS; i++) {
            Field.clear(rows[i]);
        }
        for (int i = 0; i < RUNS; i++) {
            runs[i].forget();
        }
        for (int i = 0; i < PAIRS; i++) {
            pairs[i].forget();
        }
        circuit.count = 0;
        game.begun = false;
        ledger.forget();
        return field.p;
    }

    public int modulus() {
        return group.q;
    }

    // Rows.

    public int put(int row, int place, int value)
            throws IndexOutOfBoundsException, IllegalArgumentException {
        int[] numbers = rowAt(row);
        needPlace(place);
        needNumber(value);
        int before = numbers[place];
        numbers[place] = value;
        return before;
    }

    public int fill(int row, int a, int b, int c, int d, int e, int f, int g, int h)
            throws IndexOutOfBoundsException {
        int[] numbers = rowAt(row);
        numbers[0] = field.rest(a);
        numbers[1] = field.rest(b);
        numbers[2] = field.rest(c);
        numbers[3] = field.rest(d);
        numbers[4] = field.rest(e);
        numbers[5] = field.rest(f);
        numbers[6] = field.rest(g);
        numbers[7] = field.rest(h);
        return Field.degreeOf(numbers);
    }

    public int get(int row, int place) throws IndexOutOfBoundsException {
        int[] numbers = rowAt(row);
        needPlace(place);
        return numbers[place];
    }

    public int degree(int row) throws IndexOutOfBoundsException {
        return Field.degreeOf(rowAt(row));
    }

    public int value(int row, int x) throws IndexOutOfBoundsException, IllegalArgumentException {
        int[] numbers = rowAt(row);
        needNumber(x);
        return field.valueAt(numbers, x);
    }

    public int inner(int row, int other) throws IndexOutOfBoundsException {
        return field.innerOf(rowAt(row), rowAt(other));
    }

    public int mix(int row, int other, int factor, int to)
            throws IndexOutOfBoundsException, IllegalArgumentException {
        int[] first = rowAt(row);
        int[] second = rowAt(other);
        int[] target = rowAt(to);
        needNumber(factor);
        field.addTimes(first, second, factor, target);
        return Field.degreeOf(target);
    }

    public int times(int row, int other, int to)
            throws IndexOutOfBoundsException, IllegalStateException {
        int[] first = rowAt(row);
        int[] second = rowAt(other);
        int[] target = rowAt(to);
        if (polynomials.isTooHigh(first, second)) {
            throw new IllegalStateException("the degree would be above 7");
        }
        polynomials.multiply(first, second, target);
        return Field.degreeOf(target);
    }

    public int divide(int row, int by, int quotient, int rest)
            throws IndexOutOfBoundsException, IllegalArgumentException, ArithmeticException {
        int[] first = rowAt(row);
        int[] second = rowAt(by);
        int[] whole = rowAt(quotient);
        int[] left = rowAt(rest);
        if (quotient == rest) {
            throw new IllegalArgumentException("quotient and rest are the same row");
        }
        if (Field.degreeOf(second) == NONE) {
            throw new ArithmeticException("the row by which it is divided is 0");
        }
        polynomials.divideBy(first, second, whole, left);
        return Field.degreeOf(left);
    }

    public int through(int points, int values, int many, int to)
            throws IndexOutOfBoundsException, IllegalArgumentException {
        int[] first = rowAt(points);
        int[] second = rowAt(values);
        int[] target = rowAt(to);
        if (many < 1 || many > PLACES) {
            throw new IllegalArgumentException("many is out of range");
        }
        if (Polynomials.hasTwoAlike(first, many)) {
            throw new IllegalArgumentException("two points are the same");
        }
        polynomials.interpolate(first, second, many, target);
        return Field.degreeOf(target);
    }

    public int powers(int x, int to) throws IndexOutOfBoundsException, IllegalArgumentException {
        int[] target = rowAt(to);
        needNumber(x);
        int power = 1;
        for (int i = 0; i < PLACES; i++) {
            target[i] = power;
            power = field.product(power, x);
        }
        return Field.degreeOf(target);
    }

    public boolean isMixed(int row, int other) throws IndexOutOfBoundsException {
        return Polynomials.haveSameNumbers(rowAt(row), rowAt(other));
    }

    public int meets(int row, int other) throws IndexOutOfBoundsException {
        return polynomials.meetings(rowAt(row), rowAt(other));
    }

    // Commitments.

    public int base(int number) throws IllegalArgumentException {
        if (number < 0 || number >= BASES) {
            throw new IllegalArgumentException("there is no such base");
        }
        return group.memberAt(group.bases[number]);
    }

    public boolean isMember(int y) {
        return group.exponentOf(y) != NONE;
    }

    public int log(int y) throws IllegalArgumentException {
        needMember(y);
        return group.exponentOf(y);
    }

    public int commit(int row, int blind)
            throws IndexOutOfBoundsException, IllegalArgumentException {
        int[] numbers = rowAt(row);
        needNumber(blind);
        return group.commitmentOf(numbers, blind);
    }

    public boolean isOpened(int y, int row, int blind)
            throws IndexOutOfBoundsException, IllegalArgumentException {
        int[] numbers = rowAt(row);
        needMember(y);
        needNumber(blind);
        return group.commitmentOf(numbers, blind) == y;
    }

    public int breaks(int row, int blind, int place, int to)
            throws IndexOutOfBoundsException, IllegalArgumentException {
        int[] numbers = rowAt(row);
        needPlace(place);
        int[] target = rowAt(to);
        needNumber(blind);
        int y = group.commitmentOf(numbers, blind);
        Field.copy(numbers, target);
        target[place] = field.sum(target[place], 1);
        return group.blindFor(target, y);
    }

    // Seals.

    public int seal(int a, int b) throws IllegalArgumentException {
        needSeal(a);
        needSeal(b);
        return Tree.sealOf(a, b);
    }

    public int twin(int a, int b) throws IllegalArgumentException {
        needSeal(a);
        needSeal(b);
        int wanted = Tree.sealOf(a, b);
        for (int c = 0; c < SEALS; c++) {
            for (int d = 0; d < SEALS; d++) {
                if ((c != a || d != b) && Tree.sealOf(c, d) == wanted) {
                    return SEALS * c + d;
                }
            }
        }
        return NONE;
    }

    public int root(int row) throws IndexOutOfBoundsException {
        tree.grow(rowAt(row));
        return tree.top();
    }

    public int beside(int row, int place, int step) throws IndexOutOfBoundsException {
        int[] numbers = rowAt(row);
        needPlace(place);
        if (step < 0 || step >= STEPS - 1) {
            throw new IndexOutOfBoundsException("there is no such step");
        }
        tree.grow(numbers);
        return tree.nextTo(place, step);
    }

    public int climb(int place, int value, int a, int b, int c)
            throws IndexOutOfBoundsException, IllegalArgumentException {
        needPlace(place);
        needWay(value, a, b, c);
        way.walk(place, value, a, b, c);
        return way.top();
    }

    public int parts(int place, int value, int a, int b, int c,
            int value2, int a2, int b2, int c2)
            throws IndexOutOfBoundsException, IllegalArgumentException {
        needPlace(place);
        needWay(value, a, b, c);
        needWay(value2, a2, b2, c2);
        way.walk(place, value, a, b, c);
        otherWay.walk(place, value2, a2, b2, c2);
        return way.breakAgainst(otherWay);
    }

    // Runs.

    public int state(int run, int y, int form, int v)
            throws IndexOutOfBoundsException, IllegalArgumentException {
        Run target = runAt(run);
        int[] numbers = rowAt(form);
        needMember(y);
        needNumber(v);
        target.beginWith(y, numbers, v);
        return y;
    }

    public int open(int run, int mask, int blind)
            throws IndexOutOfBoundsException, IllegalArgumentException, IllegalStateException {
        Run target = runAt(run);
        int[] numbers = rowAt(mask);
        needNumber(blind);
        needBare(target);
        target.takeMask(numbers, blind);
        return target.a;
    }

    public int say(int run, int a, int w)
            throws IndexOutOfBoundsException, IllegalArgumentException, IllegalStateException {
        Run target = runAt(run);
        needMember(a);
        needNumber(w);
        needBare(target);
        target.a = a;
        target.w = w;
        return a;
    }

    public int dare(int run, int c)
            throws IndexOutOfBoundsException, IllegalArgumentException, IllegalStateException {
        Run target = runAt(run);
        needNumber(c);
        needUnchallenged(target);
        target.c = c;
        return c;
    }

    public int ask(int run) throws IndexOutOfBoundsException, IllegalStateException {
        Run target = runAt(run);
        needUnchallenged(target);
        target.c = field.rest(target.transcript());
        return target.c;
    }

    public int reply(int run, int secret, int blind)
            throws IndexOutOfBoundsException, IllegalArgumentException, IllegalStateException {
        Run target = runAt(run);
        int[] numbers = rowAt(secret);
        needNumber(blind);
        if (!target.hasMask()) {
            throw new IllegalStateException("the run has no mask");
        }
        needUnanswered(target);
        target.answerRightly(numbers, blind);
        return target.t;
    }

    public int tell(int run, int answer, int t)
            throws IndexOutOfBoundsException, IllegalArgumentException, IllegalStateException {
        Run target = runAt(run);
        int[] numbers = rowAt(answer);
        needNumber(t);
        needUnanswered(target);
        Field.copy(numbers, target.answer);
        target.t = t;
        return t;
    }

    public boolean isAccepted(int run) throws IndexOutOfBoundsException {
        return runAt(run).accepted();
    }

    public int simulate(int run, int c, int answer, int t)
            throws IndexOutOfBoundsException, IllegalArgumentException, IllegalStateException {
        Run target = runAt(run);
        int[] numbers = rowAt(answer);
        needNumber(c);
        needNumber(t);
        needBare(target);
        target.makeUp(c, numbers, t);
        return target.a;
    }

    public int extract(int run, int second, int to)
            throws IndexOutOfBoundsException, IllegalStateException {
        Run first = runAt(run);
        Run other = runAt(second);
        int[] target = rowAt(to);
        if (!first.isForked(other)) {
            throw new IllegalStateException("they are not two such runs");
        }
        return first.secretWith(other, target);
    }

    public int maskFor(int run, int secret, int blind, int to)
            throws IndexOutOfBoundsException, IllegalArgumentException, IllegalStateException {
        Run asked = runAt(run);
        int[] numbers = rowAt(secret);
        int[] target = rowAt(to);
        needNumber(blind);
        if (!asked.accepted() || !asked.suits(numbers, blind)) {
            throw new IllegalStateException("the run is not accepted, or the secret does not fit");
        }
        return asked.maskWith(numbers, blind, target);
    }

    public boolean fits(int run, int secret, int blind)
            throws IndexOutOfBoundsException, IllegalArgumentException, IllegalStateException {
        Run asked = runAt(run);
        int[] numbers = rowAt(secret);
        needNumber(blind);
        needStatement(asked);
        return asked.suits(numbers, blind);
    }

    public int challenges(int run) throws IndexOutOfBoundsException, IllegalStateException {
        Run asked = runAt(run);
        if (!asked.hasFirst()) {
            throw new IllegalStateException("the run has no first message");
        }
        return asked.answerable();
    }

    public int told(int run, int what) throws IndexOutOfBoundsException, IllegalArgumentException {
        Run asked = runAt(run);
        if (what < 0 || what > 6) {
            throw new IllegalArgumentException("what is out of range");
        }
        return what == 6 ? asked.transcript() : asked.numberAt(what);
    }

    public int form(int run, int place, boolean isAnswer)
            throws IndexOutOfBoundsException, IllegalStateException {
        Run asked = runAt(run);
        needPlace(place);
        needStatement(asked);
        if (isAnswer && !asked.hasAnswer()) {
            throw new IllegalStateException("the run has no answer");
        }
        return isAnswer ? asked.answer[place] : asked.form[place];
    }

    // Folding and batches.

    public int fold(int run, int second, int factor, int into)
            throws IndexOutOfBoundsException, IllegalArgumentException, IllegalStateException {
        Run first = runAt(run);
        Run other = runAt(second);
        Run target = runAt(into);
        needNumber(factor);
        needJoinable(first, other, false);
        int y = group.product(first.y, group.power(other.y, factor));
        int v = field.sum(first.v, field.product(factor, other.v));
        target.beginWith(y, first.form, v);
        return y;
    }

    public int batch(int run, int second, int factor, int into)
            throws IndexOutOfBoundsException, IllegalArgumentException, IllegalStateException {
        Run first = runAt(run);
        Run other = runAt(second);
        Run target = runAt(into);
        needNumber(factor);
        needJoinable(first, other, true);
        int v = field.sum(first.v, field.product(factor, other.v));
        field.addTimes(first.form, other.form, factor, made);
        target.beginWith(first.y, made, v);
        return v;
    }

    public int factors(int run, int second, int secret, boolean isBatch, int secret2)
            throws IndexOutOfBoundsException, IllegalStateException {
        Run first = runAt(run);
        Run other = runAt(second);
        int[] numbers = rowAt(secret);
        int[] numbers2 = rowAt(secret2);
        needJoinable(first, other, isBatch);
        return field.rootsOf(first.gap(numbers), other.gap(isBatch ? numbers : numbers2));
    }

    // Bits.

    public int chooseBit(int pair, int bit, int blind)
            throws IndexOutOfBoundsException, IllegalArgumentException {
        Pair target = pairAt(pair);
        needBit(bit);
        needNumber(blind);
        target.beginWith(bit, blind);
        return target.y;
    }

    public int hideBit(int pair, int mask, int c, int t)
            throws IndexOutOfBoundsException, IllegalArgumentException, IllegalStateException {
        Pair target = pairAt(pair);
        needNumber(mask);
        needNumber(c);
        needNumber(t);
        if (!target.hasMember() || target.hasFirst()) {
            throw new IllegalStateException("the pair has no y, or has first messages");
        }
        target.hide(mask, c, t);
        return PAIR_SCALE * target.firsts[0] + target.firsts[1];
    }

    public int dareBit(int pair, int c)
            throws IndexOutOfBoundsException, IllegalArgumentException, IllegalStateException {
        Pair target = pairAt(pair);
        needNumber(c);
        if (!target.hasFirst() || target.hasChallenge()) {
            throw new IllegalStateException("the pair has no first messages, or has a challenge");
        }
        return target.answerTo(c);
    }

    public boolean isBitAccepted(int pair) throws IndexOutOfBoundsException {
        return pairAt(pair).accepted();
    }

    public int bitTold(int pair, int side, int what)
            throws IndexOutOfBoundsException, IllegalArgumentException, IllegalStateException {
        Pair asked = pairAt(pair);
        needBit(side);
        if (what < 0 || what > 2) {
            throw new IllegalArgumentException("what is out of range");
        }
        needPairChallenge(asked);
        return asked.numberAt(side, what);
    }

    public int bitLike(int pair, int bit)
            throws IndexOutOfBoundsException, IllegalArgumentException, IllegalStateException {
        Pair asked = pairAt(pair);
        needBit(bit);
        needPairChallenge(asked);
        return asked.waysOf(bit);
    }

    // Circuits.

    public int gate(int kind, int a, int b, int c)
            throws IndexOutOfBoundsException, IllegalArgumentException, IllegalStateException {
        needPlace(a);
        if (kind == Circuit.SUM || kind == Circuit.PRODUCT) {
            needPlace(b);
            needPlace(c);
        }
        if (kind == Circuit.TABLE) {
            rowAt(b);
        }
        if (kind < Circuit.SUM || kind > Circuit.TABLE) {
            throw new IllegalArgumentException("there is no such kind");
        }
        if (kind == Circuit.CONSTANT) {
            needNumber(b);
        }
        if (circuit.count >= GATES) {
            throw new IllegalStateException("there are eight gates");
        }
        return circuit.add(kind, a, b, c);
    }

    public int ungate() {
        int before = circuit.count;
        circuit.count = 0;
        return before;
    }

    public int fails(int values) throws IndexOutOfBoundsException {
        circuit.faultsOf(rowAt(values), made);
        for (int i = 0; i < PLACES; i++) {
            if (made[i] != 0) {
                return i;
            }
        }
        return NONE;
    }

    public int faults(int values, int to) throws IndexOutOfBoundsException {
        int[] numbers = rowAt(values);
        int[] target = rowAt(to);
        circuit.faultsOf(numbers, made);
        Field.copy(made, target);
        int many = 0;
        for (int i = 0; i < PLACES; i++) {
            if (target[i] != 0) {
                many++;
            }
        }
        return many;
    }

    public int spots(int values) throws IndexOutOfBoundsException {
        circuit.faultsOf(rowAt(values), made);
        return field.zerosOf(made);
    }

    // Sums by rounds.

    public int total(int row) throws IndexOutOfBoundsException {
        return field.sumOf(rowAt(row), 0, PLACES);
    }

    public int extend(int row, int x, int y, int z)
            throws IndexOutOfBoundsException, IllegalArgumentException {
        int[] numbers = rowAt(row);
        needNumber(x);
        needNumber(y);
        needNumber(z);
        Field.copy(numbers, made);
        field.bind(made, 4, x);
        field.bind(made, 2, y);
        field.bind(made, 1, z);
        return made[0];
    }

    public int play(int row, int claim) throws IndexOutOfBoundsException, IllegalArgumentException {
        int[] numbers = rowAt(row);
        needNumber(claim);
        game.beginWith(numbers, claim);
        return game.winning();
    }

    public int send(int zero, int one)
            throws IllegalArgumentException, IllegalStateException, ArithmeticException {
        needNumber(zero);
        needNumber(one);
        needProversTurn();
        if (field.sum(zero, one) != game.claim) {
            throw new ArithmeticException("both together are not the claim");
        }
        game.take(zero, one);
        return game.winning();
    }

    public int draw(int c) throws IllegalArgumentException, IllegalStateException {
        needNumber(c);
        if (!game.begun || !game.sent) {
            throw new IllegalStateException("there is no function sent");
        }
        game.goOn(c);
        return game.claim;
    }

    public int honest() throws IllegalStateException {
        needProversTurn();
        return LINE_SCALE * game.rightZero() + game.rightOne();
    }

    public boolean isWon() throws IllegalStateException {
        needGame();
        return game.round == ROUNDS && game.claimIsRight();
    }

    public int chances() throws IllegalStateException {
        needGame();
        return game.winning();
    }

    // The ledger.

    public int mint(int amount, int blind) throws IllegalArgumentException, IllegalStateException {
        needNumber(amount);
        needNumber(blind);
        needRoomForNotes(1);
        return ledger.addMinted(group.commitmentOfOne(amount, blind));
    }

    public int split(int note, int amount, int blind)
            throws IndexOutOfBoundsException, IllegalArgumentException, IllegalStateException {
        needNote(note);
        needNumber(amount);
        needNumber(blind);
        needUnspent(note);
        needRoomForNotes(2);
        return ledger.divideNote(note, group.commitmentOfOne(amount, blind));
    }

    public int merge(int note, int second)
            throws IndexOutOfBoundsException, IllegalArgumentException, IllegalStateException {
        needNote(note);
        needNote(second);
        if (note == second) {
            throw new IllegalArgumentException("they are the same note");
        }
        needUnspent(note);
        needUnspent(second);
        needRoomForNotes(1);
        return ledger.join(note, second);
    }

    public int note(int note) throws IndexOutOfBoundsException {
        needNote(note);
        return ledger.notes[note];
    }

    public int pay(int note, int run) throws IndexOutOfBoundsException, IllegalStateException {
        needNote(note);
        Run shown = runAt(run);
        needUnspent(note);
        if (!shown.opensNote(ledger.notes[note])) {
            throw new IllegalStateException("the run does not show an opening of the note");
        }
        ledger.payOut(note);
        return shown.v;
    }

    public int standing() {
        return ledger.productOfStanding();
    }

    // All.

    public double risk(int many) throws IllegalArgumentException {
        if (many < 1 || many > MOST_GAMES) {
            throw new IllegalArgumentException("many is out of range");
        }
        int p = field.p;
        double all = (double) (p * p * p);
        double winning = (double) (p * p * p - (p - 1) * (p - 1) * (p - 1));
        double share = all > 0.0 ? winning / all : 0.0;
        double product = 1.0;
        for (int i = 0; i < many; i++) {
            product = product * share;
        }
        return product;
    }

    public long checksum() {
        long sum = 31L * 7L + field.p;
        for (int i = 0; i < ROWS; i++) {
            for (int j = 0; j < PLACES; j++) {
                sum = 31L * sum + rows[i][j];
            }
        }
        for (int i = 0; i < RUNS; i++) {
            for (int j = 0; j < 6; j++) {
                sum = 31L * sum + runs[i].numberAt(j);
            }
        }
        for (int i = 0; i < ledger.count && i < NOTES; i++) {
            sum = 31L * sum + ledger.notes[i];
        }
        return 31L * sum + circuit.count;
    }

    public boolean isTrue() {
        return runsAreTrue() && joinsAreTrue() && pairsAreTrue() && rowsAreTrue()
                && treesAreTrue() && game.isFair() && ledger.isBalanced();
    }

    // What isTrue() checks.

    private boolean runsAreTrue() {
        for (int i = 0; i < RUNS; i++) {
            if (!runs[i].keepsItsWord() || !masksAreTrue(runs[i])) {
                return false;
            }
            for (int j = 0; j < i; j++) {
                if (!forkIsTrue(runs[i], runs[j])) {
                    return false;
                }
            }
        }
        return true;
    }

    private boolean forkIsTrue(Run first, Run second) {
        if (!first.isForked(second)) {
            return true;
        }
        int blind = first.secretWith(second, made);
        return first.suits(made, blind);
    }

    /** Whether each row that fits has a mask that gives this very run. */
    private boolean masksAreTrue(Run run) {
        if (!run.accepted()) {
            return true;
        }
        for (int i = 0; i < ROWS; i++) {
            int blind = group.blindFor(rows[i], run.y);
            if (run.suits(rows[i], blind)) {
                int hiding = run.maskWith(rows[i], blind, made);
                if (!run.startsFrom(made, hiding)) {
                    return false;
                }
            }
        }
        return true;
    }

    private boolean joinsAreTrue() {
        for (int i = 0; i < RUNS; i++) {
            for (int j = 0; j < i; j++) {
                for (int k = 0; k < ROWS; k++) {
                    made[k] = runs[i].gap(rows[k]);
                    made2[k] = runs[j].gap(rows[k]);
                }
                if (!batchIsTrue(runs[i], runs[j]) || !foldIsTrue(runs[i], runs[j])) {
                    return false;
                }
            }
        }
        return true;
    }

    /** Reads the gaps of all rows in made and made2. */
    private boolean batchIsTrue(Run first, Run second) {
        if (!first.isJoinable(second, true)) {
            return true;
        }
        for (int k = 0; k < ROWS; k++) {
            if ((made[k] != 0 || made2[k] != 0) && field.rootsOf(made[k], made2[k]) > 1) {
                return false;
            }
        }
        return true;
    }

    /** Reads the gaps of all rows in made and made2. */
    private boolean foldIsTrue(Run first, Run second) {
        if (!first.isJoinable(second, false)) {
            return true;
        }
        for (int k = 0; k < ROWS; k++) {
            for (int m = 0; m < ROWS; m++) {
                if ((made[k] != 0 || made2[m] != 0) && field.rootsOf(made[k], made2[m]) > 1) {
                    return false;
                }
            }
        }
        return true;
    }

    private boolean pairsAreTrue() {
        for (int i = 0; i < PAIRS; i++) {
            Pair pair = pairs[i];
            if (pair.hasChallenge()
                    && (!pair.accepted() || pair.waysOf(0) != 1 || pair.waysOf(1) != 1)) {
                return false;
            }
        }
        return true;
    }

    private boolean rowsAreTrue() {
        for (int i = 0; i < ROWS; i++) {
            circuit.faultsOf(rows[i], made);
            int degree = Field.degreeOf(made);
            if (degree != NONE && field.zerosOf(made) > degree) {
                return false;
            }
            for (int j = 0; j < i; j++) {
                if (!Polynomials.haveSameNumbers(rows[i], rows[j])
                        && polynomials.meetings(rows[i], rows[j]) > 7) {
                    return false;
                }
            }
        }
        return true;
    }

    private boolean treesAreTrue() {
        for (int i = 0; i < ROWS; i++) {
            tree.grow(rows[i]);
            for (int place = 0; place < PLACES; place++) {
                tree.lead(way, rows[i], place);
                if (way.top() != tree.top()) {
                    return false;
                }
            }
            for (int j = 0; j < i; j++) {
                if (!Field.areSame(rows[i], rows[j]) && !waysPart(rows[i], rows[j])) {
                    return false;
                }
            }
        }
        return true;
    }

    /** Reads the tree of the first row; if the root is one, unlike ways must have a break. */
    private boolean waysPart(int[] row, int[] other) {
        otherTree.grow(other);
        if (otherTree.top() != tree.top()) {
            return true;
        }
        for (int place = 0; place < PLACES; place++) {
            tree.lead(way, row, place);
            otherTree.lead(otherWay, other, place);
            if (!way.isLike(otherWay) && way.breakAgainst(otherWay) == NONE) {
                return false;
            }
        }
        return true;
    }

    // What the calls need.

    private int[] rowAt(int row) {
        if (row < 0 || row >= ROWS) {
            throw new IndexOutOfBoundsException("there is no such row");
        }
        return rows[row];
    }

    private Run runAt(int run) {
        if (run < 0 || run >= RUNS) {
            throw new IndexOutOfBoundsException("there is no such run");
        }
        return runs[run];
    }

    private Pair pairAt(int pair) {
        if (pair < 0 || pair >= PAIRS) {
            throw new IndexOutOfBoundsException("there is no such pair");
        }
        return pairs[pair];
    }

    private static void needPlace(int place) {
        if (place < 0 || place >= PLACES) {
            throw new IndexOutOfBoundsException("there is no such place");
        }
    }

    private void needNumber(int number) {
        if (!field.has(number)) {
            throw new IllegalArgumentException("it is no number of the field");
        }
    }

    private void needMember(int y) {
        if (group.exponentOf(y) == NONE) {
            throw new IllegalArgumentException("it is no member of the group");
        }
    }

    private static void needSeal(int number) {
        if (number < 0 || number >= SEALS) {
            throw new IllegalArgumentException("it is no seal");
        }
    }

    private void needWay(int value, int a, int b, int c) {
        needNumber(value);
        needSeal(a);
        needSeal(b);
        needSeal(c);
    }

    private static void needBit(int bit) {
        if (bit != 0 && bit != 1) {
            throw new IllegalArgumentException("it is neither 0 nor 1");
        }
    }

    private static void needStatement(Run run) {
        if (!run.hasStatement()) {
            throw new IllegalStateException("the run has no statement");
        }
    }

    private static void needBare(Run run) {
        if (!run.hasStatement() || run.hasFirst()) {
            throw new IllegalStateException("the run has no statement, or has a first message");
        }
    }

    private static void needUnchallenged(Run run) {
        if (!run.hasFirst() || run.hasChallenge()) {
            throw new IllegalStateException("the run has no first message, or has a challenge");
        }
    }

    private static void needUnanswered(Run run) {
        if (!run.hasChallenge() || run.hasAnswer()) {
            throw new IllegalStateException("the run has no challenge, or has an answer");
        }
    }

    private static void needJoinable(Run first, Run second, boolean isBatch) {
        if (!first.isJoinable(second, isBatch)) {
            throw new IllegalStateException("the two statements can not be joined so");
        }
    }

    private static void needPairChallenge(Pair pair) {
        if (!pair.hasChallenge()) {
            throw new IllegalStateException("the pair has no challenge");
        }
    }

    private void needGame() {
        if (!game.begun) {
            throw new IllegalStateException("there is no game");
        }
    }

    private void needProversTurn() {
        if (!game.begun || game.sent || game.round >= ROUNDS) {
            throw new IllegalStateException("there is nothing to send now");
        }
    }

    private void needNote(int note) {
        if (note < 0 || note >= ledger.count || note >= NOTES) {
            throw new IndexOutOfBoundsException("there is no such note");
        }
    }

    private void needUnspent(int note) {
        if (ledger.notes[note] == Ledger.SPENT) {
            throw new IllegalStateException("the note is spent");
        }
    }

    private void needRoomForNotes(int many) {
        if (ledger.count + many > NOTES) {
            throw new IllegalStateException("there would be more than sixteen notes");
        }
    }

    /** The numbers 0 to p - 1, reckoned with modulo p, and rows of eight of them. */
    static final class Field {

        int p;

        Field() {
            p = FIRST_P;
        }

        boolean has(int number) {
            return number >= 0 && number < p;
        }

        int rest(int number) {
            int left = p > 0 ? number % p : 0;
            return left < 0 ? left + p : left;
        }

        int sum(int a, int b) {
            return rest(a + b);
        }

        int less(int a, int b) {
            return rest(a - b);
        }

        int product(int a, int b) {
            return rest(a * b);
        }

        /** The field is small enough to look for it; 0, which has none, is kept out by callers. */
        int inverse(int a) {
            for (int b = 1; b < p; b++) {
                if (product(a, b) == 1) {
                    return b;
                }
            }
            return 0;
        }

        /** For how many factors a first gap and the factor times a second one is 0. */
        int rootsOf(int gap, int second) {
            int many = 0;
            for (int factor = 0; factor < p; factor++) {
                if (rest(gap + factor * second) == 0) {
                    many++;
                }
            }
            return many;
        }

        int valueAt(int[] row, int x) {
            int value = 0;
            for (int i = PLACES - 1; i >= 0; i--) {
                value = rest(value * x + row[i]);
            }
            return value;
        }

        int zerosOf(int[] row) {
            int many = 0;
            for (int x = 0; x < p; x++) {
                if (valueAt(row, x) == 0) {
                    many++;
                }
            }
            return many;
        }

        int innerOf(int[] row, int[] other) {
            int sum = 0;
            for (int i = 0; i < PLACES; i++) {
                sum += row[i] * other[i];
            }
            return rest(sum);
        }

        int sumOf(int[] row, int from, int end) {
            int sum = 0;
            for (int i = from; i < end && i < PLACES; i++) {
                sum += row[i];
            }
            return rest(sum);
        }

        /** Place by place, so that the row that is made may be either of the others. */
        void addTimes(int[] row, int[] other, int factor, int[] to) {
            for (int i = 0; i < PLACES; i++) {
                to[i] = rest(row[i] + factor * other[i]);
            }
        }

        /** Sets the first variable of a function told by its values at noughts and ones to c. */
        void bind(int[] values, int half, int c) {
            for (int i = 0; i < half && i + half < PLACES; i++) {
                values[i] = rest(values[i] + c * (values[i + half] - values[i]));
            }
        }

        static int degreeOf(int[] row) {
            for (int i = PLACES - 1; i >= 0; i--) {
                if (row[i] != 0) {
                    return i;
                }
            }
            return NONE;
        }

        static void clear(int[] row) {
            for (int i = 0; i < PLACES; i++) {
                row[i] = 0;
            }
        }

        static void copy(int[] row, int[] to) {
            for (int i = 0; i < PLACES; i++) {
                to[i] = row[i];
            }
        }

        static boolean areSame(int[] row, int[] other) {
            for (int i = 0; i < PLACES; i++) {
                if (row[i] != other[i]) {
                    return false;
                }
            }
            return true;
        }
    }

    /** The members of order p modulo q, each a power of B. */
    static final class Group {

        final Field field;
        int q;
        /** By exponents: the members. By members: the exponents, NONE for what is no member. */
        final int[] members;
        final int[] exponents;
        /** The exponents of G0 to G7 and of H, none of which is 0. */
        final int[] bases;

        Group(Field field) {
            this.field = field;
            members = new int[MOST_NUMBERS];
            exponents = new int[MEMBER_LIMIT];
            bases = new int[BASES];
            build();
        }

        /** To be called again whenever the field has become another one. */
        void build() {
            int p = field.p;
            q = leastModulus(p);
            int generator = leastGenerator(p);
            for (int y = 0; y < MEMBER_LIMIT; y++) {
                exponents[y] = NONE;
            }
            int power = 1;
            for (int e = 0; e < p && e < MOST_NUMBERS; e++) {
                members[e] = power;
                if (power > 0 && power < MEMBER_LIMIT) {
                    exponents[power] = e;
                }
                power = product(power, generator);
            }
            for (int i = 0; i < BASES; i++) {
                bases[i] = p > 1 ? 1 + (i * i + i) % (p - 1) : 1;
            }
        }

        private static int leastModulus(int p) {
            for (int n = p + 1; n < MEMBER_LIMIT; n++) {
                if (p > 0 && (n - 1) % p == 0 && isPrime(n)) {
                    return n;
                }
            }
            return 2;
        }

        private static boolean isPrime(int n) {
            for (int d = 2; d < n; d++) {
                if (n % d == 0) {
                    return false;
                }
            }
            return true;
        }

        private int leastGenerator(int p) {
            int exponent = p > 0 ? (q - 1) / p : 0;
            for (int a = 2; a < q; a++) {
                int raised = 1;
                for (int i = 0; i < exponent; i++) {
                    raised = product(raised, a);
                }
                if (raised != 1) {
                    return raised;
                }
            }
            return 1;
        }

        int product(int y, int other) {
            return q > 0 ? y * other % q : 0;
        }

        int memberAt(int exponent) {
            int e = field.rest(exponent);
            return e < MOST_NUMBERS ? members[e] : 1;
        }

        int exponentOf(int y) {
            return y >= 0 && y < MEMBER_LIMIT ? exponents[y] : NONE;
        }

        int power(int y, int factor) {
            return memberAt(exponentOf(y) * factor);
        }

        int quotient(int y, int other) {
            return memberAt(exponentOf(y) - exponentOf(other));
        }

        int commitmentOf(int[] row, int blind) {
            return memberAt(weightOf(row) + bases[BLIND_BASE] * blind);
        }

        int commitmentOfOne(int number, int blind) {
            return memberAt(bases[0] * number + bases[BLIND_BASE] * blind);
        }

        /** The blind number with which a row opens a member; it is there, as H is not 1. */
        int blindFor(int[] row, int y) {
            return logOfBlind(exponentOf(y) - weightOf(row));
        }

        /** The exponent to which H is B to the power of this one. */
        int logOfBlind(int exponent) {
            return field.product(field.rest(exponent), field.inverse(bases[BLIND_BASE]));
        }

        private int weightOf(int[] row) {
            int weight = 0;
            for (int i = 0; i < PLACES; i++) {
                weight += bases[i] * row[i];
            }
            return weight;
        }
    }

    /** What makes and compares rows as polynomials. */
    static final class Polynomials {

        final Field field;
        /** Rows that are made here first, as the one that is to be made may be one of the given. */
        final int[] sum;
        final int[] part;

        Polynomials(Field field) {
            this.field = field;
            sum = new int[PLACES];
            part = new int[PLACES];
        }

        boolean isTooHigh(int[] row, int[] other) {
            int degree = Field.degreeOf(row);
            int second = Field.degreeOf(other);
            return degree != NONE && second != NONE && degree + second >= PLACES;
        }

        void multiply(int[] row, int[] other, int[] to) {
            Field.clear(sum);
            for (int i = 0; i < PLACES; i++) {
                for (int j = 0; i + j < PLACES; j++) {
                    sum[i + j] = field.rest(sum[i + j] + row[i] * other[j]);
                }
            }
            Field.copy(sum, to);
        }

        void divideBy(int[] row, int[] by, int[] quotient, int[] rest) {
            int degree = Field.degreeOf(by);
            if (degree == NONE) {
                return;
            }
            int inverse = field.inverse(by[degree]);
            Field.clear(sum);
            Field.copy(row, part);
            for (int i = PLACES - 1 - degree; i >= 0; i--) {
                sum[i] = field.product(part[i + degree], inverse);
                for (int j = 0; j <= degree && i + j < PLACES; j++) {
                    part[i + j] = field.rest(part[i + j] - sum[i] * by[j]);
                }
            }
            Field.copy(sum, quotient);
            Field.copy(part, rest);
        }

        static boolean hasTwoAlike(int[] points, int many) {
            for (int i = 0; i < many && i < PLACES; i++) {
                for (int j = 0; j < i; j++) {
                    if (points[i] == points[j]) {
                        return true;
                    }
                }
            }
            return false;
        }

        /** The sum of polynomials, each with its value at one point and 0 at the others. */
        void interpolate(int[] points, int[] values, int many, int[] to) {
            Field.clear(sum);
            for (int i = 0; i < many && i < PLACES; i++) {
                int scale = makePart(points, many, i);
                int factor = field.product(values[i], field.inverse(scale));
                field.addTimes(sum, part, factor, sum);
            }
            Field.copy(sum, to);
        }

        /** Makes part 0 at all points but one, and returns its value there. */
        private int makePart(int[] points, int many, int one) {
            Field.clear(part);
            part[0] = 1;
            int scale = 1;
            for (int j = 0; j < many && j < PLACES; j++) {
                if (j != one) {
                    multiplyByRoot(points[j]);
                    scale = field.rest(scale * (points[one] - points[j]));
                }
            }
            return scale;
        }

        /** Multiplies part by x less the root. */
        private void multiplyByRoot(int root) {
            for (int i = PLACES - 1; i > 0; i--) {
                part[i] = field.rest(part[i - 1] - root * part[i]);
            }
            part[0] = field.rest(-root * part[0]);
        }

        static boolean haveSameNumbers(int[] row, int[] other) {
            for (int i = 0; i < PLACES; i++) {
                if (timesIn(row, row[i]) != timesIn(other, row[i])) {
                    return false;
                }
            }
            return true;
        }

        private static int timesIn(int[] row, int number) {
            int many = 0;
            for (int i = 0; i < PLACES; i++) {
                if (row[i] == number) {
                    many++;
                }
            }
            return many;
        }

        int meetings(int[] row, int[] other) {
            int many = 0;
            for (int x = 0; x < field.p; x++) {
                if (productWith(row, x) == productWith(other, x)) {
                    many++;
                }
            }
            return many;
        }

        private int productWith(int[] row, int x) {
            int product = 1;
            for (int i = 0; i < PLACES; i++) {
                product = field.rest(product * (x + row[i]));
            }
            return product;
        }
    }

    /** The seals of a row: the root at 1, below each seal at n those at 2 n and 2 n + 1. */
    static final class Tree {

        final int[] seals;

        Tree() {
            seals = new int[2 * PLACES];
        }

        static int sealOf(int a, int b) {
            return (a * a * a + 7 * b * b + 5 * a * b + 3 * a + b + 11) % SEALS;
        }

        void grow(int[] row) {
            for (int i = 0; i < PLACES; i++) {
                seals[PLACES + i] = sealOf(row[i], i);
            }
            for (int n = PLACES - 1; n >= 1; n--) {
                seals[n] = sealOf(seals[2 * n], seals[2 * n + 1]);
            }
        }

        int top() {
            return seals[1];
        }

        int nextTo(int place, int step) {
            int n = ((PLACES + place) >> step) ^ 1;
            return n >= 0 && n < 2 * PLACES ? seals[n] : 0;
        }

        /** Lets a way go up this tree, which must be that of the row. */
        void lead(Way way, int[] row, int place) {
            if (place >= 0 && place < PLACES) {
                way.walk(place, row[place], nextTo(place, 0), nextTo(place, 1), nextTo(place, 2));
            }
        }
    }

    /** A way from a leaf to a root: at each step a pair and its seal. */
    static final class Way {

        final int[] left;
        final int[] right;
        final int[] seals;

        Way() {
            left = new int[STEPS];
            right = new int[STEPS];
            seals = new int[STEPS];
        }

        void walk(int place, int value, int a, int b, int c) {
            left[0] = value;
            right[0] = place;
            seals[0] = Tree.sealOf(value, place);
            for (int step = 1; step < STEPS; step++) {
                int below = seals[step - 1];
                int next = step == 1 ? a : step == 2 ? b : c;
                boolean isLeft = ((place >> (step - 1)) & 1) == 0;
                left[step] = isLeft ? below : next;
                right[step] = isLeft ? next : below;
                seals[step] = Tree.sealOf(left[step], right[step]);
            }
        }

        int top() {
            return seals[STEPS - 1];
        }

        boolean isLike(Way other) {
            for (int i = 0; i < STEPS; i++) {
                if (hasOtherPair(other, i)) {
                    return false;
                }
            }
            return true;
        }

        private boolean hasOtherPair(Way other, int step) {
            return left[step] != other.left[step] || right[step] != other.right[step];
        }

        /** A lower step with one seal counts only if the roots are one, too. */
        int breakAgainst(Way other) {
            if (top() != other.top()) {
                return NONE;
            }
            for (int i = 0; i < STEPS; i++) {
                if (seals[i] == other.seals[i] && hasOtherPair(other, i)) {
                    return i;
                }
            }
            return NONE;
        }
    }

    /** A run between a prover and a checker; what is not there yet is NONE. */
    static final class Run {

        final Group group;
        final Field field;
        final int[] form;
        final int[] mask;
        final int[] answer;
        int y;
        int v;
        int a;
        int w;
        int c;
        int t;
        int maskBlind;
        /** Whether it was answered from its mask with a secret that fits. */
        boolean isRight;

        Run(Group group) {
            this.group = group;
            field = group.field;
            form = new int[PLACES];
            mask = new int[PLACES];
            answer = new int[PLACES];
            forget();
        }

        void forget() {
            y = NONE;
            v = NONE;
            a = NONE;
            w = NONE;
            c = NONE;
            t = NONE;
            maskBlind = NONE;
            isRight = false;
        }

        void beginWith(int member, int[] row, int number) {
            forget();
            Field.copy(row, form);
            y = member;
            v = number;
        }

        boolean hasStatement() {
            return y != NONE;
        }

        boolean hasFirst() {
            return a != NONE;
        }

        boolean hasChallenge() {
            return c != NONE;
        }

        boolean hasAnswer() {
            return t != NONE;
        }

        boolean hasMask() {
            return maskBlind != NONE;
        }

        void takeMask(int[] row, int blind) {
            Field.copy(row, mask);
            maskBlind = blind;
            a = group.commitmentOf(row, blind);
            w = field.innerOf(form, row);
        }

        void answerRightly(int[] secret, int blind) {
            isRight = suits(secret, blind);
            field.addTimes(mask, secret, c, answer);
            t = field.sum(maskBlind, field.product(c, blind));
        }

        void makeUp(int challenge, int[] row, int number) {
            Field.copy(row, answer);
            c = challenge;
            t = number;
            a = group.quotient(group.commitmentOf(row, number), group.power(y, challenge));
            w = field.less(field.innerOf(form, row), field.product(challenge, v));
        }

        boolean accepted() {
            return hasAnswer()
                    && group.commitmentOf(answer, t) == group.product(a, group.power(y, c))
                    && field.innerOf(form, answer) == field.sum(w, field.product(c, v));
        }

        boolean suits(int[] secret, int blind) {
            return hasStatement() && group.commitmentOf(secret, blind) == y && gap(secret) == 0;
        }

        /** By how much the inner product of the form and a row is more than v. */
        int gap(int[] secret) {
            return field.less(field.innerOf(form, secret), v);
        }

        boolean isForked(Run other) {
            return accepted() && other.accepted()
                    && y == other.y && v == other.v && Field.areSame(form, other.form)
                    && a == other.a && w == other.w && c != other.c;
        }

        int secretWith(Run other, int[] to) {
            int inverse = field.inverse(field.less(c, other.c));
            for (int i = 0; i < PLACES; i++) {
                to[i] = field.rest((answer[i] - other.answer[i]) * inverse);
            }
            return field.rest((t - other.t) * inverse);
        }

        int maskWith(int[] secret, int blind, int[] to) {
            field.addTimes(answer, secret, -c, to);
            return field.less(t, field.product(c, blind));
        }

        boolean startsFrom(int[] row, int blind) {
            return group.commitmentOf(row, blind) == a && field.innerOf(form, row) == w;
        }

        /**
         * H is no 1, so that a blind number mends any commitment: only the inner product can
         * hinder, and only with a form of noughts.
         */
        int answerable() {
            return Field.degreeOf(form) == NONE ? field.rootsOf(w, v) : field.p;
        }

        int numberAt(int what) {
            switch (what) {
                case 0:
                    return y;
                case 1:
                    return v;
                case 2:
                    return a;
                case 3:
                    return w;
                case 4:
                    return c;
                case 5:
                    return t;
                default:
                    return NONE;
            }
        }

        int transcript() {
            if (!hasFirst()) {
                return NONE;
            }
            int seal = Tree.sealOf(FIRST_SEAL, y);
            for (int i = 0; i < PLACES; i++) {
                seal = Tree.sealOf(seal, form[i]);
            }
            seal = Tree.sealOf(seal, v);
            seal = Tree.sealOf(seal, a);
            return Tree.sealOf(seal, w);
        }

        boolean isJoinable(Run other, boolean isBatch) {
            return hasStatement() && other.hasStatement()
                    && (isBatch ? y == other.y : Field.areSame(form, other.form));
        }

        boolean opensNote(int member) {
            return y == member && form[0] == 1 && Field.degreeOf(form) == 0
                    && accepted() && c == field.rest(transcript());
        }

        /** What the document promises of a run whatever has been done. */
        boolean keepsItsWord() {
            if (isRight && !accepted()) {
                return false;
            }
            if (!hasFirst()) {
                return true;
            }
            boolean isBlank = Field.degreeOf(form) == NONE;
            return isBlank ? v == 0 || answerable() <= 1 : answerable() == field.p;
        }
    }

    /** A bit that is shown to be one: of two sides one is made up. What is not there is NONE. */
    static final class Pair {

        final Group group;
        final Field field;
        final int[] firsts;
        final int[] parts;
        final int[] answers;
        int y;
        int bit;
        int blind;
        int mask;
        int c;

        Pair(Group group) {
            this.group = group;
            field = group.field;
            firsts = new int[2];
            parts = new int[2];
            answers = new int[2];
            forget();
        }

        void forget() {
            y = NONE;
            bit = 0;
            blind = 0;
            mask = NONE;
            c = NONE;
        }

        void beginWith(int chosen, int hiding) {
            forget();
            bit = chosen == 1 ? 1 : 0;
            blind = hiding;
            y = group.commitmentOfOne(bit, hiding);
        }

        boolean hasMember() {
            return y != NONE;
        }

        boolean hasFirst() {
            return mask != NONE;
        }

        boolean hasChallenge() {
            return c != NONE;
        }

        void hide(int hiding, int challenge, int answer) {
            int other = 1 - bit;
            mask = hiding;
            firsts[bit] = group.commitmentOfOne(0, hiding);
            firsts[other] = fittingFirst(other, challenge, answer);
            parts[other] = challenge;
            answers[other] = answer;
        }

        int answerTo(int challenge) {
            c = challenge;
            parts[bit] = field.less(challenge, parts[1 - bit]);
            answers[bit] = field.sum(mask, field.product(parts[bit], blind));
            return answers[bit];
        }

        /** The first message with which the equation of a side holds. */
        private int fittingFirst(int side, int challenge, int answer) {
            int shown = group.exponentOf(y) - side * group.bases[0];
            return group.memberAt(group.bases[BLIND_BASE] * answer - shown * challenge);
        }

        private boolean holds(int side) {
            return firsts[side] == fittingFirst(side, parts[side], answers[side]);
        }

        boolean accepted() {
            return hasChallenge() && holds(0) && holds(1) && field.sum(parts[0], parts[1]) == c;
        }

        int numberAt(int side, int what) {
            if (side != 0 && side != 1) {
                return NONE;
            }
            return what == 0 ? firsts[side] : what == 1 ? parts[side] : answers[side];
        }

        /**
         * The challenge and the answer of the other side must be those that it tells, so that
         * only the masks are left to be counted.
         */
        int waysOf(int owned) {
            int own = owned == 1 ? 1 : 0;
            int opening = group.logOfBlind(group.exponentOf(y) - own * group.bases[0]);
            int part = field.less(c, parts[1 - own]);
            if (!holds(1 - own) || parts[own] != part) {
                return 0;
            }
            int many = 0;
            for (int hiding = 0; hiding < field.p; hiding++) {
                if (group.commitmentOfOne(0, hiding) == firsts[own]
                        && field.sum(hiding, field.product(part, opening)) == answers[own]) {
                    many++;
                }
            }
            return many;
        }
    }

    /** Gates, each of which has a fault for a row of values. */
    static final class Circuit {

        static final int SUM = 0;
        static final int PRODUCT = 1;
        static final int CONSTANT = 2;
        static final int BIT = 3;
        static final int TABLE = 4;

        final Field field;
        final int[][] rows;
        final int[] kinds;
        final int[] as;
        final int[] bs;
        final int[] cs;
        int count;

        Circuit(Field field, int[][] rows) {
            this.field = field;
            this.rows = rows;
            kinds = new int[GATES];
            as = new int[GATES];
            bs = new int[GATES];
            cs = new int[GATES];
        }

        int add(int kind, int a, int b, int c) {
            if (count >= 0 && count < GATES) {
                kinds[count] = kind;
                as[count] = a;
                bs[count] = b;
                cs[count] = c;
                count++;
            }
            return count;
        }

        void faultsOf(int[] values, int[] to) {
            for (int i = 0; i < PLACES; i++) {
                to[i] = i < count && i < GATES ? faultOf(i, values) : 0;
            }
        }

        private int faultOf(int gate, int[] values) {
            int a = numberAt(values, as[gate]);
            int b = bs[gate];
            switch (kinds[gate]) {
                case SUM:
                    return field.rest(a + numberAt(values, b) - numberAt(values, cs[gate]));
                case PRODUCT:
                    return field.rest(a * numberAt(values, b) - numberAt(values, cs[gate]));
                case CONSTANT:
                    return field.less(a, b);
                case BIT:
                    return field.rest(a * a - a);
                default:
                    return tableFault(a, b);
            }
        }

        private int tableFault(int a, int row) {
            if (row < 0 || row >= ROWS) {
                return 0;
            }
            int product = 1;
            for (int i = 0; i < PLACES; i++) {
                product = field.rest(product * (a - rows[row][i]));
            }
            return product;
        }

        private static int numberAt(int[] values, int place) {
            return place >= 0 && place < PLACES ? values[place] : 0;
        }
    }

    /** A game of three rounds about the sum of a row's numbers. */
    static final class Game {

        final Field field;
        /** The values at noughts and ones of the variables that have no challenge yet. */
        final int[] left;
        boolean begun;
        boolean sent;
        /** Whether the claim was the total, and what was sent was what honest() tells. */
        boolean isRight;
        int claim;
        int round;
        int zero;
        int one;

        Game(Field field) {
            this.field = field;
            left = new int[PLACES];
        }

        void beginWith(int[] row, int number) {
            Field.copy(row, left);
            begun = true;
            sent = false;
            claim = number;
            round = 0;
            isRight = claimIsRight();
        }

        /** How many values at noughts, and as many at ones, the variable of this round has. */
        private int half() {
            return PLACES >> (round + 1);
        }

        int rightZero() {
            return field.sumOf(left, 0, half());
        }

        int rightOne() {
            return field.sumOf(left, half(), 2 * half());
        }

        boolean claimIsRight() {
            return claim == field.sumOf(left, 0, PLACES >> round);
        }

        void take(int atZero, int atOne) {
            isRight = isRight && atZero == rightZero() && atOne == rightOne();
            sent = true;
            zero = atZero;
            one = atOne;
        }

        void goOn(int c) {
            claim = lineAt(zero, one, c);
            field.bind(left, half(), c);
            sent = false;
            round++;
        }

        private int lineAt(int atZero, int atOne, int c) {
            return field.rest(atZero + c * (atOne - atZero));
        }

        /** How many of the challenges that are left let a best prover win. */
        int winning() {
            return sent ? winningWith(zero, one) : winningOf(ROUNDS - round, claimIsRight());
        }

        /** A wrong claim survives where, in one of the rounds, a line meets the right one. */
        private int winningOf(int rounds, boolean isRightClaim) {
            int all = 1;
            int lost = 1;
            for (int i = 0; i < rounds && i < ROUNDS; i++) {
                all = all * field.p;
                lost = lost * (field.p - 1);
            }
            return isRightClaim ? all : all - lost;
        }

        private int winningWith(int atZero, int atOne) {
            int rightZero = rightZero();
            int rightOne = rightOne();
            int rounds = ROUNDS - round - 1;
            int met = winningOf(rounds, true);
            int missed = winningOf(rounds, false);
            int sum = 0;
            for (int c = 0; c < field.p; c++) {
                sum += lineAt(atZero, atOne, c) == lineAt(rightZero, rightOne, c) ? met : missed;
            }
            return sum;
        }

        /** What the document promises of a game whatever has been done. */
        boolean isFair() {
            if (!begun) {
                return true;
            }
            if (isRight && winning() != winningOf(ROUNDS - round, true)) {
                return false;
            }
            return sent || round >= ROUNDS || winning() == bestOfAllWays();
        }

        private int bestOfAllWays() {
            int best = 0;
            for (int atZero = 0; atZero < field.p; atZero++) {
                best = Math.max(best, winningWith(atZero, field.less(claim, atZero)));
            }
            return best;
        }
    }

    /** The notes, and what shows that none came of nothing. */
    static final class Ledger {

        static final int SPENT = 0;

        final Group group;
        final int[] notes;
        int count;
        int minted;
        int paid;

        Ledger(Group group) {
            this.group = group;
            notes = new int[NOTES];
            forget();
        }

        void forget() {
            count = 0;
            minted = 1;
            paid = 1;
        }

        private int add(int y) {
            if (count < 0 || count >= NOTES) {
                return NONE;
            }
            notes[count] = y;
            count++;
            return count - 1;
        }

        int addMinted(int y) {
            minted = group.product(minted, y);
            return add(y);
        }

        int divideNote(int note, int y) {
            int left = group.quotient(notes[note], y);
            notes[note] = SPENT;
            int first = add(y);
            add(left);
            return first;
        }

        int join(int note, int second) {
            int y = group.product(notes[note], notes[second]);
            notes[note] = SPENT;
            notes[second] = SPENT;
            return add(y);
        }

        void payOut(int note) {
            paid = group.product(paid, notes[note]);
            notes[note] = SPENT;
        }

        int productOfStanding() {
            int y = 1;
            for (int i = 0; i < count && i < NOTES; i++) {
                if (notes[i] != SPENT) {
                    y = group.product(y, notes[i]);
                }
            }
            return y;
        }

        boolean isBalanced() {
            return minted == group.product(productOfStanding(), paid);
        }
    }
}
