/**
 * The states in which the boundaries are tried. What is needed of runs stands in all runs, what is
 * needed of pairs in both, so that the ranges can be tried there. All numbers are ones of each field.
 */
final class Scenes {

    interface Scene {
        void set(Hand hand);
    }

    private Scenes() {
    }

    static void nothing(Hand hand) {
    }

    static void rows(Hand hand) {
        hand.call("fill", 0, 1, 2, 0, 1, 0, 0, 1, 1);
        hand.call("fill", 1, 2, 1, 2, 0, 1, 0, 0, 1);
        hand.call("fill", 2, 1, 0, 2, 2, 0, 1, 0, 0);
        hand.call("fill", 3, 0, 1, 2, 3, 4, 5, 6, 7);
        hand.call("fill", 4, 1, 1, 0, 0, 0, 0, 0, 0);
        hand.call("fill", 5, 2, 0, 0, 0, 0, 0, 0, 0);
        hand.call("fill", 6, 2, 0, 0, 0, 0, 0, 0, 1);
        hand.call("fill", 7, 1, 0, 0, 0, 0, 0, 0, 0);
    }

    static void rowsOfDegreeThree(Hand hand) {
        for (int row = 0; row < 8; row++) {
            hand.call("fill", row, row, 1, 2, 1, 0, 0, 0, 0);
        }
    }

    static void rowsOfDegreeFour(Hand hand) {
        for (int row = 0; row < 8; row++) {
            hand.call("fill", row, row, 1, 2, 0, 1, 0, 0, 0);
        }
    }

    /** Each row has 0 to 7, begun at another place; they are unlike from the field of 11 on. */
    static void rowsOfPoints(Hand hand) {
        for (int row = 0; row < 8; row++) {
            hand.call("fill", row, row, (row + 1) % 8, (row + 2) % 8, (row + 3) % 8,
                    (row + 4) % 8, (row + 5) % 8, (row + 6) % 8, (row + 7) % 8);
        }
    }

    static void rowsAlike(Hand hand) {
        for (int row = 0; row < 8; row++) {
            hand.call("fill", row, 1, 2, 0, 1, 0, 0, 2, 1);
        }
    }

    // Runs: row 0 is the form, row 1 with 2 the secret, row 2 with 1 the mask.

    static void stated(Hand hand) {
        rows(hand);
        int y = hand.call("commit", 1, 2);
        int v = hand.call("inner", 0, 1);
        for (int run = 0; run < 4; run++) {
            hand.call("state", run, y, 0, v);
        }
    }

    static void opened(Hand hand) {
        stated(hand);
        for (int run = 0; run < 4; run++) {
            hand.call("open", run, 2, 1);
        }
    }

    static void said(Hand hand) {
        stated(hand);
        int a = hand.call("commit", 2, 1);
        for (int run = 0; run < 4; run++) {
            hand.call("say", run, a, 1);
        }
    }

    private static void dareAll(Hand hand) {
        for (int run = 0; run < 4; run++) {
            hand.call("dare", run, run % 3);
        }
    }

    /** The challenges are 0, 1, 2 and 0. */
    static void dared(Hand hand) {
        opened(hand);
        dareAll(hand);
    }

    static void asked(Hand hand) {
        opened(hand);
        for (int run = 0; run < 4; run++) {
            hand.call("ask", run);
        }
    }

    static void saidAndDared(Hand hand) {
        said(hand);
        dareAll(hand);
    }

    static void answered(Hand hand) {
        dared(hand);
        for (int run = 0; run < 4; run++) {
            hand.call("reply", run, 1, 2);
        }
    }

    /** Answered by whoever it is; none is accepted. */
    static void toldWrongly(Hand hand) {
        saidAndDared(hand);
        for (int run = 0; run < 4; run++) {
            hand.call("tell", run, 7, 0);
        }
    }

    static void simulated(Hand hand) {
        stated(hand);
        for (int run = 0; run < 4; run++) {
            hand.call("simulate", run, 1, 3, 2);
        }
    }

    /** All rows are alike, so that each of them fits with the blind number 2. */
    static void answeredWithRowsAlike(Hand hand) {
        rowsAlike(hand);
        int y = hand.call("commit", 1, 2);
        int v = hand.call("inner", 0, 1);
        for (int run = 0; run < 4; run++) {
            hand.call("state", run, y, 0, v);
            hand.call("open", run, 2, 1);
            hand.call("dare", run, 1);
            hand.call("reply", run, 1, 2);
        }
    }

    // Pairs: 0 has the bit 0, 1 the bit 1.

    static void chosen(Hand hand) {
        rows(hand);
        hand.call("chooseBit", 0, 0, 1);
        hand.call("chooseBit", 1, 1, 2);
    }

    static void hidden(Hand hand) {
        chosen(hand);
        hand.call("hideBit", 0, 1, 2, 0);
        hand.call("hideBit", 1, 2, 1, 2);
    }

    static void bitsDared(Hand hand) {
        hidden(hand);
        hand.call("dareBit", 0, 1);
        hand.call("dareBit", 1, 0);
    }

    // Circuits.

    static void sevenGates(Hand hand) {
        rows(hand);
        hand.call("gate", 0, 0, 1, 2);
        hand.call("gate", 1, 3, 4, 5);
        hand.call("gate", 2, 6, 2, 0);
        hand.call("gate", 3, 7, 0, 0);
        hand.call("gate", 4, 0, 2, 0);
        hand.call("gate", 0, 7, 6, 5);
        hand.call("gate", 1, 2, 1, 0);
    }

    static void eightGates(Hand hand) {
        sevenGates(hand);
        hand.call("gate", 3, 1, 0, 0);
    }

    // Games about row 1.

    static void played(Hand hand) {
        rows(hand);
        hand.call("play", 1, hand.call("total", 1));
    }

    private static void sendRightly(Hand hand) {
        int right = hand.call("honest");
        hand.call("send", right / 32, right % 32);
    }

    static void sent(Hand hand) {
        played(hand);
        sendRightly(hand);
    }

    static void drawn(Hand hand) {
        sent(hand);
        hand.call("draw", 2);
    }

    static void lastSent(Hand hand) {
        drawn(hand);
        sendRightly(hand);
        hand.call("draw", 1);
        sendRightly(hand);
    }

    static void over(Hand hand) {
        lastSent(hand);
        hand.call("draw", 2);
    }

    // The ledger.

    static void fourNotes(Hand hand) {
        rows(hand);
        hand.call("mint", 1, 1);
        hand.call("mint", 2, 0);
        hand.call("mint", 0, 2);
        hand.call("mint", 1, 1);
    }

    /** The notes 0 to 3 are spent, 4 and 5 stand. */
    static void fourSpentNotes(Hand hand) {
        fourNotes(hand);
        hand.call("merge", 0, 1);
        hand.call("merge", 2, 3);
    }

    private static void mintUpTo(Hand hand, int many) {
        rows(hand);
        for (int i = 0; i < many; i++) {
            hand.call("mint", i % 3, (i + 1) % 3);
        }
    }

    static void fourteenNotes(Hand hand) {
        mintUpTo(hand, 14);
    }

    static void fifteenNotes(Hand hand) {
        mintUpTo(hand, 15);
    }

    static void sixteenNotes(Hand hand) {
        mintUpTo(hand, 16);
    }

    /** Eight notes that were spent for four, and these for two, and these for one, and one more. */
    static void sixteenNotesMostSpent(Hand hand) {
        mintUpTo(hand, 8);
        for (int i = 0; i < 14; i += 2) {
            hand.call("merge", i, i + 1);
        }
        hand.call("mint", 2, 2);
    }

    /** Four notes of one commitment, and four runs of which each shows an opening of it. */
    static void payable(Hand hand) {
        rows(hand);
        for (int i = 0; i < 4; i++) {
            hand.call("mint", 2, 1);
        }
        for (int run = 0; run < 4; run++) {
            hand.call("state", run, hand.call("note", 0), 7, 2);
            hand.call("open", run, 2, 1);
            hand.call("ask", run);
            hand.call("reply", run, 5, 1);
        }
    }
}
