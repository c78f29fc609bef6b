/** The promises of the document, one test each, with answers that were reckoned by hand. */
public final class PromiseTest {

    /** The powers of B = 16 modulo 29, the group at first. */
    private static final int[] MEMBERS = {1, 16, 24, 7, 25, 23, 20};

    private PromiseTest() {
    }

    private static Veilbourse withRow(int row, int... numbers) {
        return put(new Veilbourse(), row, numbers);
    }

    private static Veilbourse put(Veilbourse x, int row, int... numbers) {
        for (int i = 0; i < 8; i++) {
            x.put(row, i, i < numbers.length ? numbers[i] : 0);
        }
        return x;
    }

    private static void row(String what, Veilbourse x, int row, int... due) {
        for (int i = 0; i < 8; i++) {
            Check.equal(what + " at the place " + i, x.get(row, i), i < due.length ? due[i] : 0);
        }
    }

    private static void index(String what, Veilbourse x, Check.Call call) {
        Check.thrown(what, Check.INDEX, x, call);
    }

    private static void argument(String what, Veilbourse x, Check.Call call) {
        Check.thrown(what, Check.ARGUMENT, x, call);
    }

    private static void state(String what, Veilbourse x, Check.Call call) {
        Check.thrown(what, Check.STATE, x, call);
    }

    public static void main(String[] args) {
        aNewObject();
        rowsAndField();
        commitments();
        seals();
        runs();
        joins();
        bits();
        circuits();
        games();
        ledger();
        all();
        Check.end("PromiseTest");
    }

    private static void rowsAndField() {
        field();
        modulus();
        putAndGet();
        fill();
        degree();
        value();
        inner();
        mix();
        times();
        divide();
        divideIntoItself();
        through();
        powers();
        isMixed();
        meets();
    }

    private static void commitments() {
        base();
        isMember();
        log();
        commit();
        isOpened();
        breaks();
    }

    private static void seals() {
        seal();
        twin();
        root();
        beside();
        climb();
        parts();
    }

    private static void runs() {
        stateOfRun();
        open();
        say();
        dare();
        ask();
        reply();
        tell();
        isAccepted();
        simulate();
        extract();
        maskFor();
        fits();
        challenges();
        told();
        form();
    }

    private static void joins() {
        fold();
        batch();
        factors();
    }

    private static void bits() {
        chooseBit();
        hideBit();
        dareBit();
        isBitAccepted();
        bitTold();
        bitLike();
    }

    private static void circuits() {
        gate();
        ungate();
        fails();
        faults();
        spots();
    }

    private static void games() {
        total();
        extend();
        play();
        send();
        draw();
        honest();
        isWon();
        chances();
    }

    private static void ledger() {
        mint();
        split();
        merge();
        note();
        pay();
        standing();
    }

    private static void all() {
        risk();
        checksum();
        isTrue();
    }

    // 1
    private static void aNewObject() {
        Veilbourse x = new Veilbourse();
        Check.equal("modulus at first", x.modulus(), 29);
        for (int i = 0; i < 8; i++) {
            row("row at first", x, i);
        }
        for (int run = 0; run < 4; run++) {
            for (int what = 0; what < 7; what++) {
                Check.equal("told at first", x.told(run, what), -1);
            }
        }
        index("note at first", x, () -> x.note(0));
        state("honest at first", x, () -> x.honest());
        Check.equal("ungate at first", x.ungate(), 0);
        state("hideBit at first", x, () -> x.hideBit(0, 0, 0, 0));
        Check.equal("standing at first", x.standing(), 1);
    }

    // 2
    private static void field() {
        int[] primes = {3, 5, 7, 11, 13, 17, 19, 23};
        Veilbourse x = new Veilbourse();
        for (int i = 0; i < 8; i++) {
            Check.equal("field " + i, x.field(i), primes[i]);
            Check.equal("the greatest number", x.put(0, 0, primes[i] - 1), 0);
            argument("a number that is none", x, () -> x.put(0, 0, primesAt(x)));
        }
        argument("field -1", x, () -> x.field(-1));
        argument("field 8", x, () -> x.field(8));
        fieldForgets();
    }

    private static int primesAt(Veilbourse x) {
        return x.get(0, 0) + 1;
    }

    private static void fieldForgets() {
        Veilbourse x = withRow(3, 1, 2, 3);
        for (int row = 0; row < 8; row++) {
            x.put(row, row, 5);
        }
        for (int run = 0; run < 4; run++) {
            x.state(run, 16, 3, 4);
            x.open(run, 3, 1);
            x.ask(run);
            x.reply(run, 3, 1);
        }
        for (int pair = 0; pair < 2; pair++) {
            x.chooseBit(pair, 1, 2);
            x.hideBit(pair, 1, 1, 1);
            x.dareBit(pair, 1);
        }
        x.gate(3, 0, 0, 0);
        x.play(3, 6);
        x.send(3, 3);
        x.mint(3, 3);
        Check.equal("field 2 again", x.field(2), 7);
        Check.that("all is as at first",
                Check.snapshot(x).equals(Check.snapshot(new Veilbourse())));
        state("pair 0 is forgotten", x, () -> x.hideBit(0, 1, 1, 1));
        state("pair 1 is forgotten", x, () -> x.hideBit(1, 1, 1, 1));
        for (int run = 0; run < 4; run++) {
            int asked = run;
            state("the run is forgotten", x, () -> x.fits(asked, 0, 0));
        }
        Check.equal("a note begins at 0 again", x.mint(1, 1), 0);
        Check.that("the product of minted notes is forgotten", x.isTrue());
    }

    // 3
    private static void modulus() {
        int[] due = {7, 11, 29, 23, 53, 103, 191, 47};
        Veilbourse x = new Veilbourse();
        for (int i = 0; i < 8; i++) {
            x.field(i);
            Check.equal("modulus " + i, x.modulus(), due[i]);
        }
    }

    // 4 and 6
    private static void putAndGet() {
        Veilbourse x = new Veilbourse();
        Check.equal("put", x.put(7, 7, 6), 0);
        Check.equal("put again", x.put(7, 7, 2), 6);
        Check.equal("get", x.get(7, 7), 2);
        Check.equal("get elsewhere", x.get(0, 0), 0);
        index("put row -1", x, () -> x.put(-1, 0, 0));
        index("put row 8", x, () -> x.put(8, 0, 0));
        index("put place -1", x, () -> x.put(0, -1, 0));
        index("put place 8 and number 7", x, () -> x.put(0, 8, 7));
        argument("put 7", x, () -> x.put(0, 0, 7));
        argument("put -1", x, () -> x.put(0, 0, -1));
        index("get row 8", x, () -> x.get(8, 0));
        index("get row -1", x, () -> x.get(-1, 0));
        index("get place 8", x, () -> x.get(0, 8));
        index("get place -1", x, () -> x.get(0, -1));
    }

    // 5
    private static void fill() {
        Veilbourse x = new Veilbourse();
        int most = Integer.MAX_VALUE;
        int least = Integer.MIN_VALUE;
        Check.equal("fill", x.fill(1, -1, 7, 8, 13, -7, most, least, 0), 6);
        row("fill", x, 1, 6, 0, 1, 6, 0, 1, 5, 0);
        Check.equal("fill with noughts", x.fill(1, 0, 7, -14, 0, 0, 0, 0, 0), -1);
        index("fill row 8", x, () -> x.fill(8, 0, 0, 0, 0, 0, 0, 0, 0));
        index("fill row -1", x, () -> x.fill(-1, 0, 0, 0, 0, 0, 0, 0, 0));
    }

    // 7
    private static void degree() {
        Veilbourse x = withRow(2, 0, 3, 0, 1);
        Check.equal("degree", x.degree(2), 3);
        Check.equal("degree of 0", x.degree(0), -1);
        x.put(0, 0, 1);
        Check.equal("degree of 1", x.degree(0), 0);
        x.put(0, 7, 1);
        Check.equal("degree 7", x.degree(0), 7);
        index("degree row 8", x, () -> x.degree(8));
        index("degree row -1", x, () -> x.degree(-1));
    }

    // 8
    private static void value() {
        Veilbourse x = withRow(0, 3, 0, 2, 1);
        Check.equal("value at 0", x.value(0, 0), 3);
        Check.equal("value at 2", x.value(0, 2), 5);
        Check.equal("value at 6", x.value(0, 6), 4);
        index("value row 8", x, () -> x.value(8, 7));
        argument("value at 7", x, () -> x.value(0, 7));
        argument("value at -1", x, () -> x.value(0, -1));
    }

    // 9
    private static void inner() {
        Veilbourse x = withRow(0, 1, 2, 3, 4, 5, 6, 0, 1);
        put(x, 1, 6, 5, 4, 3, 2, 1, 6, 2);
        Check.equal("inner", x.inner(0, 1), 2);
        Check.equal("inner of one", x.inner(0, 0), 1);
        index("inner row 8", x, () -> x.inner(8, 0));
        index("inner other -1", x, () -> x.inner(0, -1));
    }

    // 10
    private static void mix() {
        Veilbourse x = withRow(0, 1, 2, 3, 4, 5, 6, 0, 1);
        put(x, 1, 2, 0, 0, 0, 1, 0, 3, 2);
        Check.equal("mix", x.mix(0, 1, 3, 2), 6);
        row("mix", x, 2, 0, 2, 3, 4, 1, 6, 2, 0);
        row("mix leaves the first one", x, 0, 1, 2, 3, 4, 5, 6, 0, 1);
        Check.equal("mix with itself", x.mix(0, 0, 6, 0), -1);
        row("mix with itself", x, 0);
        Check.equal("mix into the other one", x.mix(2, 1, 1, 1), 7);
        row("mix into the other one", x, 1, 2, 2, 3, 4, 2, 6, 5, 2);
        index("mix row", x, () -> x.mix(8, 0, 0, 0));
        index("mix other", x, () -> x.mix(0, 8, 0, 0));
        index("mix to and factor", x, () -> x.mix(0, 0, 7, 8));
        argument("mix factor 7", x, () -> x.mix(0, 0, 7, 0));
        argument("mix factor -1", x, () -> x.mix(0, 0, -1, 0));
    }

    // 11
    private static void times() {
        Veilbourse x = withRow(0, 1, 1);
        put(x, 1, 6, 1, 2);
        Check.equal("times", x.times(0, 1, 2), 3);
        row("times", x, 2, 6, 0, 3, 2);
        Check.equal("times into itself", x.times(0, 0, 0), 2);
        row("times into itself", x, 0, 1, 2, 1);
        put(x, 3, 0, 0, 0, 0, 0, 1);
        Check.equal("times of degree 7", x.times(0, 3, 4), 7);
        row("times of degree 7", x, 4, 0, 0, 0, 0, 0, 1, 2, 1);
        put(x, 5, 0, 0, 0, 0, 0, 0, 1);
        state("times of degree 8", x, () -> x.times(5, 0, 6));
        state("times of degree 14", x, () -> x.times(4, 4, 4));
        Check.equal("times 0", x.times(4, 7, 4), -1);
        row("times 0", x, 4);
        index("times row", x, () -> x.times(8, 5, 5));
        index("times other", x, () -> x.times(5, 8, 5));
        index("times to", x, () -> x.times(5, 5, 8));
    }

    // 12
    private static void divide() {
        Veilbourse x = withRow(0, 3, 1, 4, 1, 5, 2, 6, 5);
        put(x, 1, 1, 0, 3);
        Check.equal("divide", x.divide(0, 1, 2, 3), 1);
        Check.that("the rest is lesser", x.degree(3) < x.degree(1));
        x.times(2, 1, 4);
        x.mix(4, 3, 1, 4);
        row("quotient times divisor and rest", x, 4, 3, 1, 4, 1, 5, 2, 6, 5);
        put(x, 5, 0, 0, 0, 2);
        Check.equal("divide by a higher one", x.divide(1, 5, 6, 7), 2);
        row("quotient by a higher one", x, 6);
        row("rest by a higher one", x, 7, 1, 0, 3);
        put(x, 5, 3);
        Check.equal("divide by a number", x.divide(1, 5, 6, 7), -1);
        row("quotient by a number", x, 6, 5, 0, 1);
        index("divide row", x, () -> x.divide(8, 4, 4, 4));
        index("divide by", x, () -> x.divide(0, 8, 4, 4));
        index("divide quotient", x, () -> x.divide(0, 4, 8, 4));
        index("divide rest", x, () -> x.divide(0, 4, 4, -1));
        x.fill(4, 0, 0, 0, 0, 0, 0, 0, 0);
        argument("divide into one row by 0", x, () -> x.divide(0, 4, 4, 4));
        Check.thrown("divide by 0", Check.ARITHMETIC, x, () -> x.divide(0, 4, 5, 6));
    }

    private static void divideIntoItself() {
        Veilbourse x = withRow(0, 1, 2, 1);
        put(x, 1, 1, 1);
        Check.equal("divide into both", x.divide(0, 1, 1, 0), -1);
        row("quotient in the divisor", x, 1, 1, 1);
        row("rest in the row", x, 0);
        put(x, 0, 3, 2, 1);
        Check.equal("divide crosswise", x.divide(0, 1, 0, 1), 0);
        row("quotient in the row", x, 0, 1, 1);
        row("rest in the divisor", x, 1, 2);
        Check.equal("divide by itself", x.divide(0, 0, 0, 1), -1);
        row("quotient by itself", x, 0, 1);
    }

    // 13
    private static void through() {
        Veilbourse x = withRow(0, 0, 1, 2, 3, 4, 5, 6);
        put(x, 1, 1, 2, 5, 3, 3, 5, 2);
        Check.equal("through", x.through(0, 1, 7, 2), 2);
        row("x * x + 1", x, 2, 1, 0, 1);
        Check.equal("through one", x.through(0, 1, 1, 3), 0);
        row("through one", x, 3, 1);
        Check.equal("through two, into the values", x.through(0, 1, 2, 1), 1);
        row("x + 1", x, 1, 1, 1);
        put(x, 4, 3, 3);
        Check.equal("only the first points count", x.through(4, 0, 1, 4), -1);
        row("only the first points count", x, 4);
        put(x, 4, 3, 1, 3);
        argument("two points the same", x, () -> x.through(4, 0, 3, 5));
        argument("eight points of seven numbers", x, () -> x.through(0, 1, 8, 5));
        argument("many 0", x, () -> x.through(0, 1, 0, 5));
        argument("many 9", x, () -> x.through(0, 1, 9, 5));
        index("points", x, () -> x.through(8, 1, 9, 5));
        index("values", x, () -> x.through(0, 8, 9, 5));
        index("to", x, () -> x.through(0, 1, 9, 8));
        x.field(3);
        put(x, 0, 10, 1, 2, 3, 4, 5, 6, 7);
        put(x, 1, 10, 1, 7, 9, 5, 3, 8, 2);
        Check.equal("through eight: x to the 7", x.through(0, 1, 8, 0), 7);
        for (int i = 1; i < 8; i++) {
            Check.equal("through eight at " + i, x.value(0, i), x.get(1, i));
        }
        Check.equal("through eight at 10", x.value(0, 10), 10);
    }

    // 14
    private static void powers() {
        Veilbourse x = new Veilbourse();
        Check.equal("powers of 3", x.powers(3, 1), 7);
        row("powers of 3", x, 1, 1, 3, 2, 6, 4, 5, 1, 3);
        Check.equal("powers of 0", x.powers(0, 1), 0);
        row("powers of 0", x, 1, 1);
        index("powers to 8", x, () -> x.powers(7, 8));
        argument("powers of 7", x, () -> x.powers(7, 0));
        argument("powers of -1", x, () -> x.powers(-1, 0));
    }

    // 15
    private static void isMixed() {
        Veilbourse x = withRow(0, 1, 2, 3, 3, 0, 0, 0, 5);
        put(x, 1, 5, 3, 0, 0, 2, 0, 3, 1);
        put(x, 2, 1, 2, 3, 5, 0, 0, 0, 5);
        Check.equal("isMixed", x.isMixed(0, 1), true);
        Check.equal("isMixed with itself", x.isMixed(2, 2), true);
        Check.equal("isMixed, not as often", x.isMixed(0, 2), false);
        Check.equal("isMixed, the other way round", x.isMixed(2, 0), false);
        put(x, 3, 5, 1, 1, 1, 1, 1, 1, 1);
        put(x, 4, 6, 1, 1, 1, 1, 1, 1, 1);
        Check.equal("isMixed, unlike only at 0", x.isMixed(3, 4), false);
        index("isMixed row", x, () -> x.isMixed(8, 0));
        index("isMixed other", x, () -> x.isMixed(0, -1));
    }

    // 16
    private static void meets() {
        Veilbourse x = withRow(0, 1, 1, 1, 1, 1, 1, 1, 1);
        put(x, 1, 2, 2, 2, 2, 2, 2, 2, 2);
        // (x + 1) to the 8 is (x + 1) to the 2 here: 2 x + 1 = 4 x + 4 only at x = 2.
        Check.equal("meets", x.meets(0, 1), 1);
        Check.equal("meets itself", x.meets(1, 1), 7);
        put(x, 2, 0, 1, 2, 3, 4, 5, 6, 0);
        put(x, 3, 0, 1, 2, 3, 4, 5, 6, 3);
        Check.equal("both are 0 everywhere", x.meets(2, 3), 7);
        index("meets row", x, () -> x.meets(8, 0));
        index("meets other", x, () -> x.meets(0, 8));
        x.field(7);
        put(x, 2, 0, 1, 2, 3, 4, 5, 6, 0);
        put(x, 3, 0, 1, 2, 3, 4, 5, 6, 3);
        Check.equal("meets at seven", x.meets(2, 3), 7);
    }

    // 17
    private static void base() {
        Veilbourse x = new Veilbourse();
        int[] due = {16, 7, 16, 16, 7, 16, 16, 7, 16};
        for (int i = 0; i < 9; i++) {
            Check.equal("base " + i, x.base(i), due[i]);
        }
        argument("base -1", x, () -> x.base(-1));
        argument("base 9", x, () -> x.base(9));
        x.field(1);
        int[] due5 = {4, 9, 9, 4, 4, 9, 9, 4, 4};
        for (int i = 0; i < 9; i++) {
            Check.equal("base of 5 " + i, x.base(i), due5[i]);
        }
        x.field(6);
        Check.equal("base 0 of 19", x.base(0), 69);
    }

    // 18
    private static void isMember() {
        Veilbourse x = new Veilbourse();
        int many = 0;
        for (int y = -200; y < 200; y++) {
            many += x.isMember(y) ? 1 : 0;
        }
        Check.equal("as many members as numbers", many, 7);
        for (int i = 0; i < 7; i++) {
            Check.equal("isMember", x.isMember(MEMBERS[i]), true);
        }
        Check.equal("isMember 30, 1 modulo 29", x.isMember(30), false);
        Check.equal("isMember 0", x.isMember(0), false);
        Check.equal("isMember -28", x.isMember(-28), false);
        Check.equal("isMember at most", x.isMember(Integer.MAX_VALUE), false);
        Check.equal("isMember at least", x.isMember(Integer.MIN_VALUE), false);
    }

    // 19
    private static void log() {
        Veilbourse x = new Veilbourse();
        for (int i = 0; i < 7; i++) {
            Check.equal("log " + MEMBERS[i], x.log(MEMBERS[i]), i);
        }
        argument("log 0", x, () -> x.log(0));
        argument("log 2", x, () -> x.log(2));
        argument("log -1", x, () -> x.log(-1));
        argument("log 45", x, () -> x.log(45));
    }

    // 20
    private static void commit() {
        Veilbourse x = withRow(0, 1, 2, 3, 4, 5, 6, 0, 1);
        Check.equal("commit", x.commit(0, 3), 20);
        Check.equal("commit to noughts", x.commit(1, 0), 1);
        Check.equal("commit to noughts, hidden", x.commit(1, 2), 24);
        index("commit row 8", x, () -> x.commit(8, 7));
        argument("commit blind 7", x, () -> x.commit(0, 7));
        argument("commit blind -1", x, () -> x.commit(0, -1));
    }

    // 21
    private static void isOpened() {
        Veilbourse x = withRow(0, 1, 2, 3, 4, 5, 6, 0, 1);
        Check.equal("isOpened", x.isOpened(20, 0, 3), true);
        Check.equal("isOpened, another blind number", x.isOpened(20, 0, 4), false);
        Check.equal("isOpened, another member", x.isOpened(16, 0, 3), false);
        index("isOpened row 8", x, () -> x.isOpened(2, 8, 7));
        argument("isOpened 2", x, () -> x.isOpened(2, 0, 0));
        argument("isOpened blind 7", x, () -> x.isOpened(20, 0, 7));
    }

    // 22
    private static void breaks() {
        Veilbourse x = withRow(0, 6, 2, 3, 4, 5, 6, 0, 1);
        int y = x.commit(0, 3);
        Check.equal("breaks at 1", x.breaks(0, 3, 1, 1), 0);
        row("breaks at 1", x, 1, 6, 3, 3, 4, 5, 6, 0, 1);
        Check.that("it opens", x.isOpened(y, 1, 0));
        Check.equal("breaks at 0, into itself", x.breaks(0, 0, 0, 0), 6);
        row("breaks at 0, round", x, 0, 0, 2, 3, 4, 5, 6, 0, 1);
        index("breaks row", x, () -> x.breaks(8, 7, 0, 0));
        index("breaks place", x, () -> x.breaks(0, 7, 8, 0));
        index("breaks place -1", x, () -> x.breaks(0, 7, -1, 0));
        index("breaks to", x, () -> x.breaks(0, 7, 0, 8));
        argument("breaks blind", x, () -> x.breaks(0, 7, 0, 0));
    }

    // 23
    private static void seal() {
        Veilbourse x = new Veilbourse();
        Check.equal("seal 0 0", x.seal(0, 0), 11);
        Check.equal("seal 1 2", x.seal(1, 2), 55);
        Check.equal("seal 250 250", x.seal(250, 250), 18);
        Check.equal("seal 3 250", x.seal(3, 250), 38);
        argument("seal -1 0", x, () -> x.seal(-1, 0));
        argument("seal 251 0", x, () -> x.seal(251, 0));
        argument("seal 0 -1", x, () -> x.seal(0, -1));
        argument("seal 0 251", x, () -> x.seal(0, 251));
    }

    // 24
    private static void twin() {
        Veilbourse x = new Veilbourse();
        Check.equal("twin 0 0", x.twin(0, 0), 215);
        Check.equal("twin 0 215", x.twin(0, 215), 0);
        Check.equal("twin 1 2", x.twin(1, 2), 284);
        Check.equal("twin 250 250", x.twin(250, 250), 6);
        argument("twin 251 0", x, () -> x.twin(251, 0));
        argument("twin 0 -1", x, () -> x.twin(0, -1));
    }

    // 25
    private static void root() {
        Veilbourse x = withRow(1, 1, 2, 3, 4, 5, 6, 0, 1);
        Check.equal("root", x.root(1), 4);
        Check.equal("root of noughts", x.root(0), 214);
        index("root row 8", x, () -> x.root(8));
        index("root row -1", x, () -> x.root(-1));
    }

    // 26
    private static void beside() {
        Veilbourse x = withRow(1, 1, 2, 3, 4, 5, 6, 0, 1);
        int[] leaves = {43, 15, 213, 107, 73, 116, 149, 18};
        int[] above = {24, 24, 64, 64, 167, 167, 184, 184};
        for (int place = 0; place < 8; place++) {
            Check.equal("beside leaf " + place, x.beside(1, place, 0), leaves[place]);
            Check.equal("beside above " + place, x.beside(1, place, 1), above[place]);
            Check.equal("beside half " + place, x.beside(1, place, 2), place < 4 ? 136 : 242);
        }
        index("beside row", x, () -> x.beside(8, 0, 0));
        index("beside place", x, () -> x.beside(0, 8, 0));
        index("beside step 3", x, () -> x.beside(0, 0, 3));
        index("beside step -1", x, () -> x.beside(0, 0, -1));
    }

    // 27
    private static void climb() {
        Veilbourse x = withRow(1, 1, 2, 3, 4, 5, 6, 0, 1);
        for (int i = 0; i < 8; i++) {
            int a = x.beside(1, i, 0);
            int b = x.beside(1, i, 1);
            Check.equal("climb from " + i, x.climb(i, x.get(1, i), a, b, x.beside(1, i, 2)), 4);
        }
        Check.equal("climb another way", x.climb(5, 6, 10, 20, 250), 214);
        index("climb place 8", x, () -> x.climb(8, 7, 0, 0, 0));
        index("climb place -1", x, () -> x.climb(-1, 7, 0, 0, 0));
        argument("climb value 7", x, () -> x.climb(0, 7, 0, 0, 0));
        argument("climb a", x, () -> x.climb(0, 0, 251, 0, 0));
        argument("climb b", x, () -> x.climb(0, 0, 0, -1, 0));
        argument("climb c", x, () -> x.climb(0, 0, 0, 0, 251));
    }

    // 28
    private static void parts() {
        Veilbourse x = new Veilbourse();
        Check.equal("alike", x.parts(0, 1, 2, 3, 4, 1, 2, 3, 4), -1);
        Check.that("unlike roots", x.climb(0, 1, 2, 3, 4) != x.climb(0, 2, 2, 3, 4));
        Check.equal("unlike roots", x.parts(0, 1, 2, 3, 4, 2, 2, 3, 4), -1);
        // The pair (0, 215) has the seal of (0, 0), so a way that meets it there parts.
        partsAbove(0);
        partsAbove(3);
        partsAbove(6);
        index("parts place", x, () -> x.parts(8, 7, 0, 0, 0, 0, 0, 0, 0));
        argument("parts value", x, () -> x.parts(0, 7, 0, 0, 0, 0, 0, 0, 0));
        argument("parts b", x, () -> x.parts(0, 0, 0, 251, 0, 0, 0, 0, 0));
        argument("parts value2", x, () -> x.parts(0, 0, 0, 0, 0, 7, 0, 0, 0));
        argument("parts a2", x, () -> x.parts(0, 0, 0, 0, 0, 0, -1, 0, 0));
        argument("parts b2", x, () -> x.parts(0, 0, 0, 0, 0, 0, 0, 251, 0));
        argument("parts c2", x, () -> x.parts(0, 0, 0, 0, 0, 0, 0, 0, 251));
        x.field(4);
        // The seals of 11 and 6 at the place 5 are the same.
        Check.equal("the leaf parts", x.parts(5, 11, 1, 2, 3, 6, 1, 2, 3), 0);
        Check.equal("the leaf parts lowest", x.parts(5, 11, 1, 2, 3, 6, 1, 2, 3), 0);
        Check.equal("roots unlike above it", x.parts(5, 11, 1, 2, 3, 6, 1, 2, 4),
                x.climb(5, 11, 1, 2, 3) == x.climb(5, 6, 1, 2, 4) ? 0 : -1);
    }

    /** Seeks, at each step, another seal beside a way that leads to the same seal above. */
    private static void partsAbove(int place) {
        int[] found = new int[4];
        for (int n = 0; n < 251; n++) {
            seekParts(new Veilbourse(), place, n, found);
        }
        Check.that("all steps were found from " + place, found[1] > 0 && found[2] > 0
                && found[3] > 0);
    }

    private static void seekParts(Veilbourse x, int place, int n, int[] found) {
        int leaf = sealed(1, place);
        int first = sealBeside(leaf, 9, place & 1);
        int second = sealBeside(first, 9, place & 2);
        int way = x.climb(place, 1, n, 9, 9);
        for (int other = 0; other < 251; other++) {
            if (other != n && sealBeside(leaf, n, place & 1) == sealBeside(leaf, other, place & 1)) {
                Check.equal("parts at 1", x.parts(place, 1, n, 9, 9, 1, other, 9, 9), 1);
                Check.equal("the root is one", x.climb(place, 1, other, 9, 9), way);
                found[1]++;
            }
            if (other != n && sealBeside(first, n, place & 2) == sealBeside(first, other, place & 2)) {
                Check.equal("parts at 2", x.parts(place, 1, 9, n, 9, 1, 9, other, 9), 2);
                found[2]++;
            }
            if (other != n && sealBeside(second, n, place & 4) == sealBeside(second, other, place & 4)) {
                Check.equal("parts at 3", x.parts(place, 1, 9, 9, n, 1, 9, 9, other), 3);
                found[3]++;
            }
        }
    }

    private static int sealBeside(int below, int next, int bit) {
        return bit == 0 ? sealed(below, next) : sealed(next, below);
    }

    private static int sealed(int a, int b) {
        return (a * a * a + 7 * b * b + 5 * a * b + 3 * a + b + 11) % 251;
    }

    // 29
    private static void stateOfRun() {
        Veilbourse x = withRow(2, 1, 2, 3);
        Check.equal("state", x.state(3, 24, 2, 5), 24);
        Check.equal("y", x.told(3, 0), 24);
        Check.equal("v", x.told(3, 1), 5);
        x.put(2, 0, 6);
        Check.equal("the form is copied", x.form(3, 0, false), 1);
        x.open(3, 2, 1);
        x.dare(3, 1);
        x.reply(3, 2, 1);
        Check.equal("state anew", x.state(3, 16, 2, 0), 16);
        for (int what = 2; what < 7; what++) {
            Check.equal("nothing is left of " + what, x.told(3, what), -1);
        }
        Check.equal("the new form", x.form(3, 0, false), 6);
        x.say(3, 1, 0);
        x.dare(3, 1);
        state("the mask is forgotten", x, () -> x.reply(3, 2, 1));
        index("state run 4", x, () -> x.state(4, 2, 0, 0));
        index("state run -1", x, () -> x.state(-1, 2, 0, 0));
        index("state form 8", x, () -> x.state(0, 2, 8, 0));
        argument("state y 2", x, () -> x.state(0, 2, 0, 0));
        argument("state v 7", x, () -> x.state(0, 1, 0, 7));
        argument("state v -1", x, () -> x.state(0, 1, 0, -1));
    }

    // 30
    private static void open() {
        Veilbourse x = withRow(0, 1, 2, 0, 0, 0, 0, 0, 3);
        put(x, 1, 2, 1, 0, 0, 0, 0, 0, 1);
        state("open without a statement", x, () -> x.open(0, 1, 2));
        x.state(0, 1, 0, 0);
        Check.equal("open", x.open(0, 1, 2), MEMBERS[(2 + 3 + 3 + 2) % 7]);
        Check.equal("A", x.told(0, 2), MEMBERS[3]);
        Check.equal("w", x.told(0, 3), 0);
        state("open twice", x, () -> x.open(0, 1, 2));
        index("open run 4", x, () -> x.open(4, 0, 7));
        index("open mask 8", x, () -> x.open(0, 8, 7));
        argument("open blind 7", x, () -> x.open(0, 0, 7));
        x.put(1, 0, 5);
        x.dare(0, 0);
        x.reply(0, 0, 0);
        Check.equal("the mask is copied", x.form(0, 0, true), 2);
    }

    // 31
    private static void say() {
        Veilbourse x = new Veilbourse();
        state("say without a statement", x, () -> x.say(1, 1, 1));
        x.state(1, 1, 0, 0);
        argument("say 2", x, () -> x.say(1, 2, 0));
        argument("say w 7", x, () -> x.say(1, 1, 7));
        index("say run 4", x, () -> x.say(4, 2, 7));
        Check.equal("say", x.say(1, 23, 4), 23);
        Check.equal("A", x.told(1, 2), 23);
        Check.equal("w", x.told(1, 3), 4);
        state("say twice", x, () -> x.say(1, 23, 4));
        state("open after say", x, () -> x.open(1, 0, 0));
        x.dare(1, 0);
        state("there is no mask", x, () -> x.reply(1, 0, 0));
    }

    // 32
    private static void dare() {
        Veilbourse x = new Veilbourse();
        x.state(0, 1, 0, 0);
        state("dare without a first message", x, () -> x.dare(0, 1));
        state("dare without a statement", x, () -> x.dare(1, 1));
        x.open(0, 0, 0);
        argument("dare 7", x, () -> x.dare(0, 7));
        argument("dare -1", x, () -> x.dare(0, -1));
        index("dare run 4", x, () -> x.dare(4, 7));
        Check.equal("dare", x.dare(0, 6), 6);
        Check.equal("c", x.told(0, 4), 6);
        state("dare twice", x, () -> x.dare(0, 6));
    }

    // 33
    private static void ask() {
        Veilbourse x = withRow(0, 1, 2, 3, 4, 5, 6, 0, 1);
        x.state(0, 24, 0, 5);
        state("ask without a first message", x, () -> x.ask(0));
        x.say(0, 20, 6);
        Check.equal("T", x.told(0, 6), 237);
        Check.equal("ask", x.ask(0), 237 % 7);
        Check.equal("c", x.told(0, 4), 237 % 7);
        state("ask twice", x, () -> x.ask(0));
        state("dare after ask", x, () -> x.dare(0, 1));
        index("ask run 4", x, () -> x.ask(4));
        index("ask run -1", x, () -> x.ask(-1));
        state("ask without a statement", x, () -> x.ask(1));
    }

    // 34
    private static void reply() {
        Veilbourse x = withRow(0, 1, 2, 0, 0, 0, 0, 0, 3);
        put(x, 1, 2, 1, 0, 0, 0, 0, 0, 1);
        x.state(0, 1, 0, 0);
        state("reply without a mask", x, () -> x.reply(0, 0, 0));
        x.open(0, 1, 2);
        state("reply without a challenge", x, () -> x.reply(0, 0, 0));
        x.dare(0, 3);
        index("reply run 4", x, () -> x.reply(4, 0, 7));
        index("reply secret 8", x, () -> x.reply(0, 8, 7));
        argument("reply blind 7", x, () -> x.reply(0, 0, 7));
        Check.equal("reply", x.reply(0, 0, 4), 0);
        Check.equal("t", x.told(0, 5), 0);
        int[] due = {5, 0, 0, 0, 0, 0, 0, 3};
        for (int i = 0; i < 8; i++) {
            Check.equal("Z", x.form(0, i, true), due[i]);
        }
        state("reply twice", x, () -> x.reply(0, 0, 4));
        state("tell after reply", x, () -> x.tell(0, 0, 4));
    }

    // 35
    private static void tell() {
        Veilbourse x = withRow(0, 1, 2, 3);
        x.state(0, 1, 0, 0);
        state("tell without a first message", x, () -> x.tell(0, 0, 0));
        x.say(0, 1, 0);
        state("tell without a challenge", x, () -> x.tell(0, 0, 0));
        x.dare(0, 1);
        index("tell run 4", x, () -> x.tell(4, 0, 7));
        index("tell row 8", x, () -> x.tell(0, 8, 7));
        argument("tell t 7", x, () -> x.tell(0, 0, 7));
        Check.equal("tell", x.tell(0, 0, 5), 5);
        Check.equal("t", x.told(0, 5), 5);
        x.put(0, 1, 0);
        Check.equal("Z is copied", x.form(0, 1, true), 2);
        state("tell twice", x, () -> x.tell(0, 0, 5));
    }

    /** Begins and answers a run rightly: row 0 is the form, row 1 the secret, row 2 the mask. */
    private static Veilbourse rightRun(int run, int c) {
        Veilbourse x = withRow(0, 1, 2, 0, 0, 4, 0, 0, 3);
        put(x, 1, 2, 1, 5, 0, 0, 6, 0, 1);
        put(x, 2, 3, 3, 0, 0, 1, 0, 2, 0);
        answerRightly(x, run, c);
        return x;
    }

    private static void answerRightly(Veilbourse x, int run, int c) {
        x.state(run, x.commit(1, 4), 0, x.inner(0, 1));
        x.open(run, 2, 5);
        x.dare(run, c);
        x.reply(run, 1, 4);
    }

    // 36
    private static void isAccepted() {
        Veilbourse x = rightRun(0, 3);
        Check.equal("a right run", x.isAccepted(0), true);
        Check.equal("a run without a statement", x.isAccepted(1), false);
        x.state(1, 1, 0, 0);
        x.say(1, 1, 0);
        x.dare(1, 2);
        Check.equal("a run without an answer", x.isAccepted(1), false);
        x.tell(1, 3, 0);
        Check.equal("a run that is told", x.isAccepted(1), true);
        x.state(1, 1, 0, 0);
        x.say(1, 1, 1);
        x.dare(1, 2);
        x.tell(1, 3, 0);
        Check.equal("the second equation fails", x.isAccepted(1), false);
        x.state(1, 16, 0, 0);
        x.say(1, 1, 0);
        x.dare(1, 2);
        x.tell(1, 3, 0);
        Check.equal("the first equation fails", x.isAccepted(1), false);
        index("isAccepted run 4", x, () -> x.isAccepted(4));
        index("isAccepted run -1", x, () -> x.isAccepted(-1));
    }

    // 37
    private static void simulate() {
        Veilbourse x = withRow(0, 1, 2, 0, 0, 4, 0, 0, 3);
        put(x, 1, 2, 1, 5, 0, 0, 6, 0, 1);
        state("simulate without a statement", x, () -> x.simulate(2, 3, 1, 4));
        x.state(2, 24, 0, 6);
        index("simulate run 4", x, () -> x.simulate(4, 7, 1, 4));
        index("simulate row 8", x, () -> x.simulate(2, 7, 8, 4));
        argument("simulate c 7", x, () -> x.simulate(2, 7, 1, 4));
        argument("simulate t 7", x, () -> x.simulate(2, 3, 1, 7));
        // The exponents: 2 + 3 + 5 + 6 + 3 + 4 = 23 of the answer, less 3 times 2.
        Check.equal("simulate", x.simulate(2, 3, 1, 4), MEMBERS[17 % 7]);
        Check.equal("w", x.told(2, 3), (7 + 21 - 18) % 7);
        Check.equal("c", x.told(2, 4), 3);
        Check.equal("t", x.told(2, 5), 4);
        Check.equal("Z", x.form(2, 5, true), 6);
        Check.that("it is accepted", x.isAccepted(2));
        state("simulate twice", x, () -> x.simulate(2, 3, 1, 4));
        state("there is no mask", x, () -> x.reply(2, 1, 4));
    }

    // 38
    private static void extract() {
        Veilbourse x = rightRun(0, 3);
        answerRightly(x, 1, 5);
        Check.equal("extract", x.extract(0, 1, 4), 4);
        row("the secret", x, 4, 2, 1, 5, 0, 0, 6, 0, 1);
        Check.equal("the other way round", x.extract(1, 0, 5), 4);
        row("the same secret", x, 5, 2, 1, 5, 0, 0, 6, 0, 1);
        Check.that("it fits", x.fits(0, 4, 4));
        state("one run alone", x, () -> x.extract(0, 0, 4));
        answerRightly(x, 2, 3);
        state("the same challenge", x, () -> x.extract(0, 2, 4));
        x.state(2, x.commit(1, 4), 0, x.inner(0, 1));
        state("no answer", x, () -> x.extract(0, 2, 4));
        x.simulate(2, 1, 3, 0);
        state("another first message", x, () -> x.extract(0, 2, 4));
        x.state(2, x.commit(1, 4), 0, x.inner(0, 1));
        x.say(2, x.told(0, 2), x.told(0, 3));
        x.dare(2, 1);
        x.tell(2, 3, 0);
        state("not accepted", x, () -> x.extract(0, 2, 4));
        index("extract run", x, () -> x.extract(4, 0, 0));
        index("extract second", x, () -> x.extract(0, 4, 0));
        index("extract to", x, () -> x.extract(0, 0, 8));
    }

    // 39
    private static void maskFor() {
        Veilbourse x = rightRun(0, 3);
        Check.equal("maskFor", x.maskFor(0, 1, 4, 6), 5);
        row("the mask", x, 6, 3, 3, 0, 0, 1, 0, 2, 0);
        Check.equal("maskFor into the secret", x.maskFor(0, 1, 4, 1), 5);
        row("the mask instead of the secret", x, 1, 3, 3, 0, 0, 1, 0, 2, 0);
        state("it does not fit now", x, () -> x.maskFor(0, 1, 4, 1));
        state("no run", x, () -> x.maskFor(1, 1, 4, 1));
        index("maskFor run", x, () -> x.maskFor(4, 1, 7, 1));
        index("maskFor secret", x, () -> x.maskFor(0, 8, 7, 1));
        index("maskFor to", x, () -> x.maskFor(0, 1, 7, 8));
        argument("maskFor blind", x, () -> x.maskFor(0, 1, 7, 1));
        put(x, 1, 2, 1, 5, 0, 0, 6, 0, 1);
        x.state(0, x.commit(1, 4), 0, x.inner(0, 1));
        x.open(0, 2, 5);
        x.dare(0, 1);
        state("not answered yet", x, () -> x.maskFor(0, 1, 4, 1));
    }

    // 40
    private static void fits() {
        Veilbourse x = rightRun(0, 3);
        Check.equal("fits", x.fits(0, 1, 4), true);
        Check.equal("fits, another blind number", x.fits(0, 1, 5), false);
        Check.equal("fits, another row", x.fits(0, 2, 4), false);
        // The place 6 weighs in the commitment, but not in the form; 3 and 2 weigh as much.
        Check.equal("a break", x.breaks(1, 4, 6, 3), 3);
        Check.equal("fits with a break", x.fits(0, 3, 3), true);
        Check.equal("a break in the form", x.breaks(1, 4, 0, 3), 3);
        Check.equal("does not fit with it", x.fits(0, 3, 3), false);
        state("fits without a statement", x, () -> x.fits(1, 1, 4));
        index("fits run 4", x, () -> x.fits(4, 1, 7));
        index("fits row 8", x, () -> x.fits(1, 8, 7));
        argument("fits blind 7", x, () -> x.fits(1, 1, 7));
    }

    // 41
    private static void challenges() {
        Veilbourse x = withRow(1, 0, 0, 0, 0, 0, 0, 0, 1);
        x.state(0, 16, 1, 3);
        state("challenges without a first message", x, () -> x.challenges(0));
        x.say(0, 1, 0);
        Check.equal("a form", x.challenges(0), 7);
        x.state(0, 16, 0, 3);
        x.say(0, 1, 5);
        Check.equal("no form, v 3", x.challenges(0), 1);
        x.dare(0, 2);
        Check.equal("a challenge does not matter", x.challenges(0), 1);
        x.state(0, 16, 0, 0);
        x.say(0, 1, 5);
        Check.equal("no form, v 0, w 5", x.challenges(0), 0);
        x.state(0, 16, 0, 0);
        x.say(0, 1, 0);
        Check.equal("no form, v 0, w 0", x.challenges(0), 7);
        index("challenges run 4", x, () -> x.challenges(4));
        state("challenges without a statement", x, () -> x.challenges(1));
    }

    // 42
    private static void told() {
        Veilbourse x = withRow(0, 1);
        x.state(0, 16, 0, 3);
        x.say(0, 7, 2);
        x.dare(0, 4);
        x.tell(0, 0, 6);
        int[] due = {16, 3, 7, 2, 4, 6};
        for (int what = 0; what < 6; what++) {
            Check.equal("told " + what, x.told(0, what), due[what]);
        }
        x.state(1, 1, 3, 0);
        Check.equal("T without a first message", x.told(1, 6), -1);
        x.say(1, 1, 0);
        Check.equal("T", x.told(1, 6), 122);
        x.dare(1, 1);
        Check.equal("T although it was not asked", x.told(1, 6), 122);
        index("told run 4", x, () -> x.told(4, 7));
        index("told run -1", x, () -> x.told(-1, 0));
        argument("told 7", x, () -> x.told(0, 7));
        argument("told -1", x, () -> x.told(0, -1));
    }

    // 43
    private static void form() {
        Veilbourse x = withRow(0, 1, 2, 3, 4, 5, 6, 0, 1);
        state("form without a statement", x, () -> x.form(0, 0, false));
        state("Z without a statement", x, () -> x.form(0, 0, true));
        x.state(0, 1, 0, 0);
        for (int i = 0; i < 8; i++) {
            Check.equal("form " + i, x.form(0, i, false), x.get(0, i));
        }
        state("Z without an answer", x, () -> x.form(0, 0, true));
        x.simulate(0, 1, 1, 1);
        Check.equal("Z", x.form(0, 1, true), 0);
        index("form run 4", x, () -> x.form(4, 0, false));
        index("form place 8", x, () -> x.form(1, 8, false));
        index("form place -1", x, () -> x.form(0, -1, true));
    }

    // 44
    private static void fold() {
        Veilbourse x = withRow(0, 1, 2, 3);
        x.state(0, 16, 0, 3);
        x.state(1, 24, 0, 5);
        Check.equal("fold", x.fold(0, 1, 4, 2), MEMBERS[(1 + 8) % 7]);
        Check.equal("y", x.told(2, 0), 24);
        Check.equal("v", x.told(2, 1), 23 % 7);
        Check.equal("the form", x.form(2, 2, false), 3);
        x.open(1, 0, 0);
        Check.equal("fold into the second", x.fold(0, 1, 1, 1), MEMBERS[3]);
        Check.equal("it begins anew", x.told(1, 2), -1);
        Check.equal("the form stays", x.form(1, 1, false), 2);
        Check.equal("fold with itself", x.fold(0, 0, 6, 0), 1);
        Check.equal("v is 0", x.told(0, 1), 0);
        state("fold without a statement", x, () -> x.fold(0, 3, 1, 2));
        state("fold without the first", x, () -> x.fold(3, 0, 1, 2));
        x.state(3, 1, 1, 0);
        state("fold of unlike forms", x, () -> x.fold(0, 3, 1, 2));
        put(x, 4, 6, 2, 3);
        x.state(3, 1, 4, 0);
        state("fold of forms unlike at 0", x, () -> x.fold(0, 3, 1, 2));
        put(x, 4, 1, 2, 3, 0, 0, 0, 0, 1);
        x.state(3, 1, 4, 0);
        state("fold of forms unlike at 7", x, () -> x.fold(0, 3, 1, 2));
        index("fold run", x, () -> x.fold(4, 3, 7, 2));
        index("fold second", x, () -> x.fold(0, -1, 7, 2));
        index("fold into", x, () -> x.fold(0, 3, 7, 4));
        argument("fold factor", x, () -> x.fold(0, 3, 7, 2));
    }

    // 45
    private static void batch() {
        Veilbourse x = withRow(0, 1, 2, 3);
        put(x, 1, 6, 0, 0, 2);
        x.state(0, 16, 0, 3);
        x.state(1, 16, 1, 5);
        Check.equal("batch", x.batch(0, 1, 4, 2), 23 % 7);
        Check.equal("y", x.told(2, 0), 16);
        int[] due = {4, 2, 3, 1, 0, 0, 0, 0};
        for (int i = 0; i < 8; i++) {
            Check.equal("the joined form", x.form(2, i, false), due[i]);
        }
        Check.equal("batch into the first", x.batch(0, 1, 1, 0), 1);
        Check.equal("its form", x.form(0, 0, false), 0);
        Check.equal("batch with itself", x.batch(0, 0, 6, 0), 0);
        Check.equal("no form is left", x.form(0, 3, false), 0);
        x.state(0, 24, 0, 3);
        state("batch of unlike commitments", x, () -> x.batch(0, 1, 1, 2));
        state("batch without a statement", x, () -> x.batch(0, 3, 1, 2));
        index("batch run", x, () -> x.batch(4, 3, 7, 2));
        index("batch second", x, () -> x.batch(0, 4, 7, 2));
        index("batch into", x, () -> x.batch(0, 3, 7, -1));
        argument("batch factor", x, () -> x.batch(0, 1, -1, 2));
    }

    // 46
    private static void factors() {
        Veilbourse x = withRow(0, 1);
        put(x, 1, 0, 1);
        put(x, 2, 3, 5);
        put(x, 3, 4, 4);
        x.state(0, 16, 0, 3);
        x.state(1, 16, 1, 5);
        Check.equal("batch, both are fulfilled", x.factors(0, 1, 2, true, 0), 7);
        Check.equal("batch, neither is", x.factors(0, 1, 3, true, 0), 1);
        put(x, 3, 4, 5);
        Check.equal("batch, only the second is", x.factors(0, 1, 3, true, 0), 0);
        x.state(2, 24, 0, 4);
        Check.equal("fold, both are fulfilled", x.factors(0, 2, 2, false, 3), 7);
        Check.equal("fold, only the first is", x.factors(0, 2, 2, false, 2), 1);
        Check.equal("fold, only the second is", x.factors(0, 2, 3, false, 3), 0);
        Check.equal("fold, neither is", x.factors(0, 2, 3, false, 2), 1);
        state("fold of unlike forms", x, () -> x.factors(0, 1, 2, false, 3));
        state("batch of unlike commitments", x, () -> x.factors(0, 2, 2, true, 3));
        state("no statement", x, () -> x.factors(0, 3, 2, true, 3));
        index("factors run", x, () -> x.factors(4, 3, 2, true, 3));
        index("factors second", x, () -> x.factors(0, 4, 2, true, 3));
        index("factors secret", x, () -> x.factors(0, 3, 8, true, 3));
        index("factors secret2 in batch", x, () -> x.factors(0, 1, 2, true, 8));
    }

    // 47
    private static void chooseBit() {
        Veilbourse x = new Veilbourse();
        Check.equal("bit 0", x.chooseBit(0, 0, 3), MEMBERS[3]);
        Check.equal("bit 1", x.chooseBit(1, 1, 3), MEMBERS[4]);
        x.hideBit(1, 1, 1, 1);
        x.dareBit(1, 1);
        Check.equal("anew", x.chooseBit(1, 1, 0), MEMBERS[1]);
        state("nothing is left", x, () -> x.bitTold(1, 0, 0));
        Check.equal("nothing is accepted", x.isBitAccepted(1), false);
        state("no first messages", x, () -> x.dareBit(1, 1));
        index("chooseBit pair 2", x, () -> x.chooseBit(2, 2, 0));
        index("chooseBit pair -1", x, () -> x.chooseBit(-1, 2, 0));
        argument("chooseBit 2", x, () -> x.chooseBit(0, 2, 0));
        argument("chooseBit -1", x, () -> x.chooseBit(0, -1, 0));
        argument("chooseBit blind 7", x, () -> x.chooseBit(0, 0, 7));
    }

    // 48
    private static void hideBit() {
        Veilbourse x = new Veilbourse();
        state("hideBit without y", x, () -> x.hideBit(0, 1, 1, 1));
        x.chooseBit(0, 0, 3);
        // Side 1: Y has the exponent 3 - 1; H to the 5, divided by Y to the 4: 5 - 8.
        Check.equal("hideBit 0", x.hideBit(0, 2, 4, 5), 191 * MEMBERS[2] + MEMBERS[4]);
        state("hideBit twice", x, () -> x.hideBit(0, 2, 4, 5));
        x.chooseBit(1, 1, 3);
        // Side 0: Y has the exponent 4; 5 - 16.
        Check.equal("hideBit 1", x.hideBit(1, 2, 4, 5), 191 * MEMBERS[3] + MEMBERS[2]);
        index("hideBit pair 2", x, () -> x.hideBit(2, 7, 0, 0));
        argument("hideBit mask 7", x, () -> x.hideBit(0, 7, 0, 0));
        argument("hideBit c -1", x, () -> x.hideBit(0, 0, -1, 0));
        argument("hideBit t 7", x, () -> x.hideBit(0, 0, 0, 7));
    }

    // 49
    private static void dareBit() {
        Veilbourse x = new Veilbourse();
        state("dareBit without y", x, () -> x.dareBit(0, 1));
        x.chooseBit(0, 1, 3);
        state("dareBit without first messages", x, () -> x.dareBit(0, 1));
        x.hideBit(0, 2, 4, 5);
        index("dareBit pair 2", x, () -> x.dareBit(2, 7));
        argument("dareBit 7", x, () -> x.dareBit(0, 7));
        argument("dareBit -1", x, () -> x.dareBit(0, -1));
        // The side of the bit gets 1 - 4 = 4, and answers 2 + 4 * 3.
        Check.equal("dareBit", x.dareBit(0, 1), 0);
        state("dareBit twice", x, () -> x.dareBit(0, 1));
        state("hideBit after it", x, () -> x.hideBit(0, 2, 4, 5));
    }

    // 50
    private static void isBitAccepted() {
        Veilbourse x = new Veilbourse();
        Check.equal("no pair", x.isBitAccepted(0), false);
        for (int i = 0; i < 49; i++) {
            x.chooseBit(0, i % 2, i % 7);
            x.hideBit(0, i / 7, (3 * i + 1) % 7, (5 * i + 2) % 7);
            Check.equal("no answer yet", x.isBitAccepted(0), false);
            x.dareBit(0, (2 * i) % 7);
            Check.equal("a pair", x.isBitAccepted(0), true);
        }
        index("isBitAccepted pair 2", x, () -> x.isBitAccepted(2));
        index("isBitAccepted pair -1", x, () -> x.isBitAccepted(-1));
    }

    // 51
    private static void bitTold() {
        Veilbourse x = new Veilbourse();
        state("bitTold without y", x, () -> x.bitTold(0, 0, 0));
        x.chooseBit(0, 1, 3);
        x.hideBit(0, 2, 4, 5);
        state("bitTold without a challenge", x, () -> x.bitTold(0, 0, 0));
        x.dareBit(0, 1);
        int[] due = {7, 4, 5, 24, 4, 0};
        for (int i = 0; i < 6; i++) {
            Check.equal("bitTold " + i, x.bitTold(0, i / 3, i % 3), due[i]);
        }
        index("bitTold pair 2", x, () -> x.bitTold(2, 2, 3));
        argument("bitTold side 2", x, () -> x.bitTold(0, 2, 0));
        argument("bitTold side -1", x, () -> x.bitTold(1, -1, 0));
        argument("bitTold what 3", x, () -> x.bitTold(1, 0, 3));
        argument("bitTold what -1", x, () -> x.bitTold(0, 0, -1));
    }

    // 52
    private static void bitLike() {
        Veilbourse x = new Veilbourse();
        state("bitLike without y", x, () -> x.bitLike(0, 0));
        x.chooseBit(0, 1, 3);
        x.hideBit(0, 2, 4, 5);
        state("bitLike without a challenge", x, () -> x.bitLike(0, 0));
        x.dareBit(0, 1);
        Check.equal("bitLike 0", x.bitLike(0, 0), 1);
        Check.equal("bitLike 1", x.bitLike(0, 1), 1);
        index("bitLike pair 2", x, () -> x.bitLike(2, 2));
        argument("bitLike 2", x, () -> x.bitLike(1, 2));
        argument("bitLike -1", x, () -> x.bitLike(0, -1));
    }

    // 53
    private static void gate() {
        Veilbourse x = new Veilbourse();
        index("gate a 8", x, () -> x.gate(9, 8, 0, 0));
        index("gate a -1", x, () -> x.gate(2, -1, 9, 0));
        index("sum b", x, () -> x.gate(0, 0, 8, 0));
        index("sum c", x, () -> x.gate(0, 0, 0, 8));
        index("product b", x, () -> x.gate(1, 0, -1, 0));
        index("product c", x, () -> x.gate(1, 0, 0, -1));
        index("table b", x, () -> x.gate(4, 0, 8, 0));
        argument("kind 5, b and c not looked at", x, () -> x.gate(5, 0, 99, 99));
        argument("kind -1, b and c not looked at", x, () -> x.gate(-1, 0, 99, 99));
        argument("constant 7", x, () -> x.gate(2, 0, 7, 0));
        argument("constant -1", x, () -> x.gate(2, 0, -1, 0));
        Check.equal("sum", x.gate(0, 7, 7, 7), 1);
        Check.equal("product", x.gate(1, 7, 7, 7), 2);
        Check.equal("constant, c not looked at", x.gate(2, 7, 6, -9), 3);
        Check.equal("bit, b and c not looked at", x.gate(3, 7, 99, -9), 4);
        Check.equal("table, c not looked at", x.gate(4, 7, 7, 99), 5);
        x.gate(3, 0, 0, 0);
        x.gate(3, 0, 0, 0);
        Check.equal("eight", x.gate(3, 0, 0, 0), 8);
        state("nine", x, () -> x.gate(3, 0, 0, 0));
        index("nine, no such place", x, () -> x.gate(3, 8, 0, 0));
        argument("nine, no such kind", x, () -> x.gate(5, 0, 0, 0));
        argument("nine, no such constant", x, () -> x.gate(2, 0, 7, 0));
    }

    // 54
    private static void ungate() {
        Veilbourse x = withRow(0, 3);
        x.gate(3, 0, 0, 0);
        x.gate(3, 1, 0, 0);
        Check.equal("fails before", x.fails(0), 0);
        Check.equal("ungate", x.ungate(), 2);
        Check.equal("fails after", x.fails(0), -1);
        Check.equal("ungate again", x.ungate(), 0);
        Check.equal("from the first again", x.gate(3, 1, 0, 0), 1);
    }

    // 55
    private static void fails() {
        Veilbourse x = withRow(0, 2, 3, 5, 6, 1);
        Check.equal("no gate", x.fails(0), -1);
        x.gate(0, 0, 1, 2);
        x.gate(1, 0, 1, 3);
        x.gate(2, 4, 1, 0);
        x.gate(3, 4, 0, 0);
        Check.equal("all hold", x.fails(0), -1);
        x.gate(3, 0, 0, 0);
        Check.equal("the bit fails", x.fails(0), 4);
        x.put(0, 2, 6);
        Check.equal("the sum fails first", x.fails(0), 0);
        index("fails row 8", x, () -> x.fails(8));
        index("fails row -1", x, () -> x.fails(-1));
    }

    // 56
    private static void faults() {
        Veilbourse x = withRow(0, 2, 3, 6, 4, 5);
        put(x, 1, 1, 0, 0, 0, 0, 0, 0, 0);
        x.gate(0, 0, 1, 2);
        x.gate(1, 0, 1, 3);
        x.gate(2, 4, 6, 0);
        x.gate(3, 4, 0, 0);
        x.gate(4, 0, 1, 0);
        Check.equal("faults", x.faults(0, 2), 5);
        // 2 + 3 - 6, 2 * 3 - 4, 5 - 6, 25 - 5, and 1 * 2 to the 7.
        row("faults", x, 2, 6, 2, 6, 6, 2);
        Check.equal("faults into the table", x.faults(0, 1), 5);
        row("faults into the table", x, 1, 6, 2, 6, 6, 2);
        Check.equal("the table as it is then", x.faults(0, 3), 4);
        row("the table as it is then", x, 3, 6, 2, 6, 6, 0);
        Check.equal("faults into the values", x.faults(0, 0), 4);
        row("faults into the values", x, 0, 6, 2, 6, 6, 0);
        x.ungate();
        x.gate(4, 1, 5, 0);
        put(x, 5, 2, 4, 4, 4, 4, 4, 4, 5);
        put(x, 7, 0, 2);
        Check.equal("in the table at 0", x.faults(7, 6), 0);
        x.put(7, 1, 5);
        Check.equal("in the table at 7", x.faults(7, 6), 0);
        x.put(7, 1, 3);
        Check.equal("not in the table", x.faults(7, 6), 1);
        // 1 times -1 six times times -2.
        row("not in the table", x, 6, 5);
        x.ungate();
        x.gate(4, 7, 0, 0);
        put(x, 0, 3);
        put(x, 5, 0, 0, 0, 0, 0, 0, 0, 3);
        Check.equal("in the table row 0 at 0", x.faults(5, 6), 0);
        x.ungate();
        Check.equal("faults of no gate", x.faults(0, 0), 0);
        row("faults of no gate", x, 0);
        index("faults values", x, () -> x.faults(8, 0));
        index("faults to", x, () -> x.faults(0, 8));
    }

    // 57
    private static void spots() {
        Veilbourse x = withRow(0, 2, 3);
        Check.equal("no fault", x.spots(0), 7);
        x.gate(2, 0, 0, 0);
        Check.equal("the fault 2 alone", x.spots(0), 0);
        x.gate(2, 1, 0, 0);
        Check.equal("2 + 3 x", x.spots(0), 1);
        x.ungate();
        x.gate(2, 2, 1, 0);
        x.gate(2, 3, 0, 0);
        x.gate(2, 2, 6, 0);
        Check.equal("x * x - 1", x.spots(0), 2);
        index("spots row 8", x, () -> x.spots(8));
        index("spots row -1", x, () -> x.spots(-1));
    }

    // 58
    private static void total() {
        Veilbourse x = withRow(0, 1, 2, 3, 4, 5, 6, 0, 1);
        Check.equal("total", x.total(0), 1);
        Check.equal("total of noughts", x.total(1), 0);
        index("total row 8", x, () -> x.total(8));
        index("total row -1", x, () -> x.total(-1));
    }

    // 59
    private static void extend() {
        Veilbourse x = withRow(0, 1, 2, 3, 4, 5, 6, 0, 1);
        for (int i = 0; i < 8; i++) {
            Check.equal("extend at a corner", x.extend(0, i / 4, i / 2 % 2, i % 2), x.get(0, i));
        }
        // At x = 2: 2 times the upper half less the lower one: 9 10 -3 -2; at y = 3: -27 -26.
        Check.equal("extend", x.extend(0, 2, 3, 5), Math.floorMod(-27 + 5, 7));
        index("extend row 8", x, () -> x.extend(8, 7, 0, 0));
        argument("extend x 7", x, () -> x.extend(0, 7, 0, 0));
        argument("extend y -1", x, () -> x.extend(0, 0, -1, 0));
        argument("extend z 7", x, () -> x.extend(0, 0, 0, 7));
    }

    // 60
    private static void play() {
        Veilbourse x = withRow(0, 1, 2, 3, 4, 5, 6, 0, 1);
        Check.equal("a right claim", x.play(0, 1), 343);
        Check.equal("a wrong claim", x.play(0, 2), 343 - 216);
        index("play row 8", x, () -> x.play(8, 7));
        argument("play claim 7", x, () -> x.play(0, 7));
        argument("play claim -1", x, () -> x.play(0, -1));
        x.play(0, 1);
        x.put(0, 0, 0);
        Check.equal("about a copy", x.honest(), 32 * 3 + 5);
        x.send(3, 5);
        Check.equal("begun anew", x.play(0, 0), 343);
        Check.equal("nothing is sent", x.honest(), 32 * 2 + 5);
        x.field(0);
        Check.equal("a wrong claim of 3", x.play(0, 1), 27 - 8);
    }

    // 61
    private static void send() {
        Veilbourse x = withRow(0, 1, 2, 3, 4, 5, 6, 0, 1);
        state("send without a game", x, () -> x.send(3, 5));
        x.play(0, 1);
        argument("send 7", x, () -> x.send(7, 1));
        argument("send one -1", x, () -> x.send(1, -1));
        Check.thrown("not the claim", Check.ARITHMETIC, x, () -> x.send(3, 6));
        Check.equal("what is right", x.send(3, 5), 343);
        state("send twice", x, () -> x.send(3, 5));
        state("send twice, not the claim", x, () -> x.send(3, 6));
        x.play(0, 1);
        // The difference is 1 at 0 and -1 at 1: it is 0 at 4, where 49 are left, else 13.
        Check.equal("a wrong line", x.send(4, 4), 49 + 6 * 13);
        x.play(0, 3);
        // The difference is 1 at 0 and at 1: it is never 0.
        Check.equal("a line that never meets", x.send(4, 6), 7 * 13);
        x.draw(0);
        x.send(0, 4);
        x.draw(0);
        x.send(0, 0);
        x.draw(0);
        state("all rounds are over", x, () -> x.send(0, 0));
    }

    // 62
    private static void draw() {
        Veilbourse x = withRow(0, 1, 2, 3, 4, 5, 6, 0, 1);
        state("draw without a game", x, () -> x.draw(0));
        x.play(0, 1);
        state("draw before send", x, () -> x.draw(0));
        argument("draw 7", x, () -> x.draw(7));
        argument("draw -1", x, () -> x.draw(-1));
        x.send(3, 5);
        Check.equal("draw", x.draw(4), (3 + 4 * 2) % 7);
        state("draw twice", x, () -> x.draw(4));
        x.send(0, 4);
        Check.equal("draw the second", x.draw(1), 4);
        x.send(4, 0);
        Check.equal("draw the third", x.draw(0), 4);
        state("draw after all", x, () -> x.draw(0));
    }

    // 63
    private static void honest() {
        Veilbourse x = withRow(0, 1, 2, 3, 4, 5, 6, 0, 1);
        state("honest without a game", x, () -> x.honest());
        x.play(0, 6);
        Check.equal("honest", x.honest(), 32 * 3 + 5);
        x.send(3, 3);
        state("honest after send", x, () -> x.honest());
        x.draw(2);
        // What is left at x = 2: 9 10 -3 -2.
        Check.equal("honest in the second round", x.honest(), 32 * 5 + 2);
        x.send(3, 0);
        x.draw(3);
        // What is left at y = 3: -27 -26.
        Check.equal("honest in the third round", x.honest(), 32 * 1 + 2);
        x.send(1, 0);
        x.draw(3);
        state("honest after all", x, () -> x.honest());
        x.field(7);
        x.put(0, 0, 22);
        x.put(0, 7, 22);
        x.play(0, 0);
        Check.equal("honest of 23", x.honest(), 32 * 22 + 22);
    }

    // 64
    private static void isWon() {
        Veilbourse x = withRow(0, 1, 2, 3, 4, 5, 6, 0, 1);
        state("isWon without a game", x, () -> x.isWon());
        x.play(0, 1);
        for (int round = 0; round < 3; round++) {
            Check.equal("not yet won", x.isWon(), false);
            int right = x.honest();
            x.send(right / 32, right % 32);
            Check.equal("not yet won", x.isWon(), false);
            x.draw(round + 2);
        }
        Check.equal("won", x.isWon(), true);
        lostAtTheEnd();
    }

    private static void lostAtTheEnd() {
        Veilbourse x = new Veilbourse();
        x.play(0, 1);
        x.send(1, 0);
        x.draw(0);
        x.send(1, 0);
        x.draw(0);
        x.send(1, 0);
        x.draw(2);
        Check.equal("lost", x.isWon(), false);
        Check.equal("no chance is left", x.chances(), 0);
        x.play(0, 1);
        x.send(1, 0);
        x.draw(1);
        x.send(0, 0);
        x.draw(3);
        x.send(0, 0);
        x.draw(4);
        Check.equal("won with a wrong claim", x.isWon(), true);
        Check.equal("the one chance", x.chances(), 1);
    }

    // 65
    private static void chances() {
        Veilbourse x = new Veilbourse();
        state("chances without a game", x, () -> x.chances());
        x.play(0, 1);
        Check.equal("at first", x.chances(), 127);
        x.send(1, 0);
        Check.equal("sent", x.chances(), 49 + 6 * 13);
        x.draw(0);
        Check.equal("the second round, wrong", x.chances(), 13);
        x.send(4, 4);
        Check.equal("sent without a meeting", x.chances(), 7);
        x.draw(0);
        Check.equal("the third round, wrong", x.chances(), 1);
        x.send(4, 0);
        Check.equal("sent with one meeting", x.chances(), 1);
        x.draw(1);
        Check.equal("over, won", x.chances(), 1);
        x.play(0, 1);
        x.send(1, 0);
        x.draw(1);
        Check.equal("the second round, right", x.chances(), 49);
    }

    // 66
    private static void mint() {
        Veilbourse x = new Veilbourse();
        argument("mint amount 7", x, () -> x.mint(7, 0));
        argument("mint blind -1", x, () -> x.mint(0, -1));
        Check.equal("mint", x.mint(2, 3), 0);
        Check.equal("its commitment", x.note(0), MEMBERS[5]);
        for (int i = 1; i < 16; i++) {
            Check.equal("mint " + i, x.mint(i % 7, 0), i);
        }
        state("the seventeenth", x, () -> x.mint(0, 0));
        argument("the seventeenth, of 7", x, () -> x.mint(7, 0));
        x.field(1);
        Check.equal("another field begins again", x.mint(1, 1), 0);
        Check.equal("its commitment there", x.note(0), 5);
    }

    // 67
    private static void split() {
        Veilbourse x = new Veilbourse();
        index("split of no note", x, () -> x.split(0, 7, 0));
        x.mint(5, 4);
        Check.equal("split", x.split(0, 2, 1), 1);
        Check.equal("it is spent", x.note(0), 0);
        Check.equal("the first one", x.note(1), MEMBERS[3]);
        Check.equal("what is left", x.note(2), MEMBERS[6]);
        state("split of a spent one", x, () -> x.split(0, 2, 1));
        argument("split amount", x, () -> x.split(0, 7, 1));
        argument("split blind", x, () -> x.split(0, 0, -1));
        index("split -1", x, () -> x.split(-1, 0, 0));
        index("split 3", x, () -> x.split(3, 0, 0));
        for (int i = 3; i < 15; i++) {
            x.mint(1, 1);
        }
        state("split with room for one", x, () -> x.split(1, 0, 0));
        x.field(2);
        for (int i = 0; i < 14; i++) {
            x.mint(1, 1);
        }
        Check.equal("split to sixteen", x.split(13, 0, 0), 14);
        state("split of sixteen", x, () -> x.split(0, 0, 0));
    }

    // 68
    private static void merge() {
        Veilbourse x = new Veilbourse();
        x.mint(1, 1);
        x.mint(2, 2);
        index("merge no note", x, () -> x.merge(2, 2));
        index("merge no first", x, () -> x.merge(2, 0));
        index("merge first -1", x, () -> x.merge(-1, 0));
        index("merge no second", x, () -> x.merge(0, -1));
        argument("merge with itself", x, () -> x.merge(1, 1));
        Check.equal("merge", x.merge(0, 1), 2);
        Check.equal("the product", x.note(2), MEMBERS[6]);
        Check.equal("the first is spent", x.note(0), 0);
        Check.equal("the second is spent", x.note(1), 0);
        state("merge a spent one", x, () -> x.merge(0, 2));
        state("merge with a spent one", x, () -> x.merge(2, 1));
        argument("merge a spent one with itself", x, () -> x.merge(0, 0));
        for (int i = 3; i < 15; i++) {
            x.mint(1, 1);
        }
        Check.equal("merge to sixteen", x.merge(2, 3), 15);
        state("merge of sixteen", x, () -> x.merge(4, 5));
    }

    // 69
    private static void note() {
        Veilbourse x = new Veilbourse();
        index("no note", x, () -> x.note(0));
        index("note -1", x, () -> x.note(-1));
        x.mint(0, 0);
        Check.equal("the commitment of nothing", x.note(0), 1);
        index("note 1", x, () -> x.note(1));
        x.split(0, 1, 0);
        Check.equal("a spent one", x.note(0), 0);
        Check.equal("of what is left", x.note(2), MEMBERS[6]);
    }

    // 70
    private static void pay() {
        Veilbourse x = withRow(0, 1);
        put(x, 1, 5);
        put(x, 2, 3, 1, 4);
        x.mint(5, 2);
        index("pay no note", x, () -> x.pay(1, 0));
        index("pay no run", x, () -> x.pay(0, 4));
        state("pay without a statement", x, () -> x.pay(0, 0));
        x.state(0, x.note(0), 0, 5);
        x.open(0, 2, 6);
        x.ask(0);
        state("pay without an answer", x, () -> x.pay(0, 0));
        x.reply(0, 1, 2);
        x.mint(4, 4);
        state("pay another note", x, () -> x.pay(1, 0));
        Check.equal("pay", x.pay(0, 0), 5);
        Check.equal("it is spent", x.note(0), 0);
        Check.that("the run stays", x.isAccepted(0));
        state("pay twice", x, () -> x.pay(0, 0));
        Check.equal("what stands", x.standing(), MEMBERS[1]);
        payWithOtherRuns();
    }

    private static void payWithOtherRuns() {
        Veilbourse x = withRow(0, 1);
        put(x, 1, 5);
        put(x, 2, 2);
        x.mint(5, 2);
        x.state(0, x.note(0), 0, 5);
        x.open(0, 2, 6);
        int asked = x.told(0, 6) % 7;
        x.dare(0, (asked + 1) % 7);
        x.reply(0, 1, 2);
        state("pay with another challenge", x, () -> x.pay(0, 0));
        x.state(1, x.note(0), 2, 3);
        x.open(1, 2, 6);
        x.ask(1);
        x.reply(1, 1, 2);
        Check.that("accepted with another form", x.isAccepted(1));
        state("pay with another form", x, () -> x.pay(0, 1));
        put(x, 3, 1, 1);
        x.state(1, x.note(0), 3, 5);
        x.open(1, 2, 6);
        x.ask(1);
        x.reply(1, 1, 2);
        Check.that("accepted with a longer form", x.isAccepted(1));
        state("pay with a longer form", x, () -> x.pay(0, 1));
        x.state(2, x.note(0), 0, 5);
        x.open(2, 2, 6);
        x.ask(2);
        x.reply(2, 1, 3);
        state("pay with a run that is not accepted", x, () -> x.pay(0, 2));
        x.state(3, x.note(0), 0, 5);
        x.open(3, 2, 6);
        x.dare(3, asked);
        x.reply(3, 1, 2);
        Check.equal("pay with the challenge that was dared", x.pay(0, 3), 5);
        Check.that("the ledger holds", x.isTrue());
    }

    // 71
    private static void standing() {
        Veilbourse x = new Veilbourse();
        Check.equal("nothing stands", x.standing(), 1);
        x.mint(1, 1);
        x.mint(2, 3);
        Check.equal("two stand", x.standing(), MEMBERS[0]);
        x.split(0, 3, 3);
        Check.equal("split changes nothing", x.standing(), MEMBERS[0]);
        x.merge(1, 3);
        Check.equal("merge changes nothing", x.standing(), MEMBERS[0]);
        x.mint(3, 0);
        Check.equal("one more", x.standing(), MEMBERS[3]);
    }

    // 72
    private static void risk() {
        Veilbourse x = new Veilbourse();
        double share = 127.0 / 343.0;
        Check.equal("risk 1", x.risk(1), share);
        Check.equal("risk 2", x.risk(2), share * share);
        double due = 1.0;
        for (int i = 0; i < 30; i++) {
            due = due * share;
        }
        Check.equal("risk 30", x.risk(30), due);
        argument("risk 0", x, () -> x.risk(0));
        argument("risk 31", x, () -> x.risk(31));
        argument("risk -1", x, () -> x.risk(-1));
        x.field(0);
        Check.equal("risk of 3", x.risk(1), 19.0 / 27.0);
    }

    // 73
    private static void checksum() {
        Veilbourse x = withRow(0, 1, 2, 3, 4, 5, 6, 0, 1);
        x.state(1, 16, 0, 3);
        x.say(1, 7, 2);
        x.mint(5, 1);
        x.mint(5, 1);
        x.split(0, 1, 1);
        x.gate(3, 0, 0, 0);
        long due = 31 * 7 + 7;
        for (int i = 0; i < 64; i++) {
            due = 31 * due + x.get(i / 8, i % 8);
        }
        int[] told = {-1, -1, -1, -1, -1, -1, 16, 3, 7, 2, -1, -1};
        for (int i = 0; i < 24; i++) {
            due = 31 * due + (i < 12 ? told[i] : -1);
        }
        int[] notes = {0, MEMBERS[6], MEMBERS[2], MEMBERS[4]};
        for (int i = 0; i < 4; i++) {
            due = 31 * due + notes[i];
        }
        Check.equal("checksum", x.checksum(), 31 * due + 1);
    }

    // 74
    private static void isTrue() {
        Check.equal("at first", new Veilbourse().isTrue(), true);
        Veilbourse x = rightRun(0, 3);
        answerRightly(x, 1, 5);
        x.chooseBit(0, 1, 4);
        x.hideBit(0, 1, 2, 3);
        x.dareBit(0, 6);
        x.gate(3, 0, 0, 0);
        x.play(1, 2);
        x.send(1, 1);
        x.mint(3, 3);
        x.split(0, 1, 2);
        java.util.List<Long> before = Check.snapshot(x);
        Check.equal("with all in it", x.isTrue(), true);
        Check.that("isTrue changes nothing", before.equals(Check.snapshot(x)));
    }
}
