/**
 * What is signed, and with which longs: two longs of a signature are altered so that they fit again (see Signed),
 * which comes out only when the digits, the parts and the sides are those of the document.
 */
public final class SignatureTest {
    private static final int NONE = QuorumChain.NONE;
    private static final int SEED = 71;
    private static final long[] MASKS = {1, -1, Long.MIN_VALUE, Long.MAX_VALUE, 77};
    private static final int[] LEAST = {99, 99, 99, 99, 99, 99};
    private static final int[] MOST = {0, 0, 0, 0, 0, 0};

    private SignatureTest() {
    }

    public static void main(String[] args) {
        Check.sentence("part c is the secret of chain c after as many steps as digit c says",
                SignatureTest::partsOfEachKey);
        Check.sentence("of each row from the leaves up the neighbour of what leads from leaf k to the top",
                SignatureTest::sidesOfEachKey);
        Check.sentence("1 PROPOSAL of a block (signed: FOLD(1, block))", SignatureTest::proposalsOfLeaders);
        Check.sentence("2 VOTE for a block (FOLD(2, block))", SignatureTest::votes);
        Check.sentence("(FOLD(3, view, block); one signature for all to which it goes)", SignatureTest::timeouts);
        Check.sentence("3 TIMEOUT of a view with a block, the sender's HIGH", SignatureTest::timeoutsInTheChain);
        Check.sentence("4 its remainder by 16, 5 the rest / 16", SignatureTest::digitsAtTheirEdges);
        // Not reached: four digits that are all 0 or all 15 (a rest of 60 or of 0): no FOLD(m) of a proposal or
        // vote of a block up to 66, or of a timeout of a view up to 128 with such a block, ends in 16 bits 0 or 1.
        Check.sentence("have a FOLD that, put together with the sides row by row", SignatureTest::keysOfOthers);
        Check.end();
    }

    /** Node 3's lie about block k + 1 is on the way to node 1, signed with key k. */
    private static Chain lieWithKey(int k) {
        Chain x = new Chain(SEED);
        for (int b = 0; b < k; b++) {
            x.lie(2, 13, 0, NONE);
        }
        x.lie(1, 13, 0, NONE);
        return x;
    }

    private static Signed signedLie(int k) {
        return noted(new Signed(SEED, 3, k, NaiveChain.fold(1, k + 1)));
    }

    private static Signed noted(Signed s) {
        for (int c = 0; c < 6; c++) {
            LEAST[c] = Math.min(LEAST[c], s.digits[c]);
            MOST[c] = Math.max(MOST[c], s.digits[c]);
        }
        return s;
    }

    private static void partsOfEachKey() {
        for (int k = 0; k < 32; k++) {
            Signed s = signedLie(k);
            for (int c = 0; c < 5; c++) {
                Chain x = lieWithKey(k);
                x.alter(1, c, MASKS[c]);
                x.alter(1, c + 1, s.nextPartsMask(c, MASKS[c]));
                Check.due("the key", x.message(1, 0, 4), k);
                x.deliver(1);
                Check.due("key " + k + ", parts " + c + " and " + (c + 1), x.block(k + 1, 4), 10);
            }
        }
    }

    private static void sidesOfEachKey() {
        for (int k = 0; k < 32; k++) {
            Signed s = signedLie(k);
            for (int row = 0; row < 5; row++) {
                Chain x = lieWithKey(k);
                x.alter(1, 5, MASKS[row]);
                x.alter(1, 6 + row, s.sidesMask(row, MASKS[row]));
                x.deliver(1);
                Check.due("key " + k + ", part 5 and the side of row " + row, x.block(k + 1, 4), 10);
            }
        }
    }

    /** Alters two neighbouring parts of the first message to node i so that they fit again. */
    private static void alterBoth(Chain x, int i, Signed s, int c) {
        x.alter(i, c, MASKS[c]);
        x.alter(i, c + 1, s.nextPartsMask(c, MASKS[c]));
    }

    private static void proposalsOfLeaders() {
        for (int c = 0; c < 5; c++) {
            Chain x = new Chain(SEED);
            x.begin();
            for (int b = 1; b <= 6; b++) {
                Play.runOthersUntilBlock(x, 2, b);
                int leader = (b - 1) / 4;
                int key = x.message(2, 0, 4);
                Check.due("the sender", x.message(2, 0, 1), leader);
                alterBoth(x, 2, noted(new Signed(SEED, leader, key, NaiveChain.fold(1, b))), c);
                x.deliver(2);
                Check.due("node 2 has block " + b, x.node(2, 9), b + 1);
            }
        }
    }

    /** Two votes for block b have come to node 0, and node 3's is on the way, alone. */
    private static Chain thirdVoteFor(int b) {
        Chain x = new Chain(SEED);
        x.begin();
        for (int done = 1; done < b; done++) {
            for (int i = 0; i < 3; i++) {
                x.deliver(i);
            }
            Play.deliver(x, 0, 3);
        }
        x.deliver(0);
        x.deliver(1);
        Play.deliver(x, 0, 2);
        x.lieVote(0, b);
        return x;
    }

    private static void votes() {
        for (int b = 1; b <= 3; b++) {
            for (int c = 0; c < 5; c++) {
                Chain x = thirdVoteFor(b);
                alterBoth(x, 0, noted(new Signed(SEED, 3, 0, NaiveChain.fold(2, b))), c);
                x.deliver(0);
                Check.due("block " + b + " is certified", x.block(b, 3), 1);
                Chain y = thirdVoteFor(b);
                alterBoth(y, 0, new Signed(SEED, 3, 0, NaiveChain.fold(1, b)), c);
                y.deliver(0);
                Check.due("not by what would do for a proposal", y.block(b, 3), 0);
            }
        }
    }

    /** Nodes 0, 1 and 2 have timed out in view v, and two of these timeouts have come to node 0. */
    private static Chain thirdTimeoutOf(int v) {
        Chain x = new Chain(SEED);
        for (int i = 0; i < 3; i++) {
            x.lie(i, v, 0, NONE);
            x.deliver(i);
        }
        Play.loseAll(x);
        Play.ticks(x, 6);
        Play.deliver(x, 0, 2);
        return x;
    }

    private static void timeouts() {
        for (int v : new int[] {13, 14, 15, 29, 30, 45, 46, 47}) {
            for (int c = 0; c < 5; c++) {
                Chain x = thirdTimeoutOf(v);
                alterBoth(x, 0, noted(new Signed(SEED, 2, 1, NaiveChain.fold(3, v, 0))), c);
                x.deliver(0);
                Check.due("behind view " + v, x.node(0, 1), v + 1);
                Chain y = thirdTimeoutOf(v);
                alterBoth(y, 0, new Signed(SEED, 2, 1, NaiveChain.fold(3, 0, v)), c);
                y.deliver(0);
                Check.due("not by view and block the other way round", y.node(0, 1), v);
            }
        }
        for (int i = 0; i < 4; i++) {
            Chain x = Scenes.withBlockTwoProposed(SEED);
            for (int j = 0; j < 4; j++) {
                x.deliver(j);
            }
            Play.loseAll(x);
            Play.ticks(x, 6);
            Play.deliver(x, i, 2);
            alterBoth(x, i, noted(new Signed(SEED, 2, 2, NaiveChain.fold(3, 2, 1))), i);
            x.deliver(i);
            Check.due("view 2 with block 1, to node " + i, x.node(i, 1), 3);
        }
    }

    /** All have voted in view v of the plain chain and timed out in it; two timeouts have come to node 0. */
    private static Chain thirdTimeoutInTheChain(int v) {
        Chain x = new Chain(SEED);
        x.begin();
        Play.runUntilBlock(x, v);
        int next = v / 4;
        Play.deliverAll(x, next);
        for (int i = 0; i < 4; i++) {
            if (i != next) {
                Play.deliverAll(x, i);
            }
        }
        Play.loseAll(x);
        Play.ticks(x, 6);
        Play.deliver(x, 0, 2);
        return x;
    }

    private static void timeoutsInTheChain() {
        for (int c = 0; c < 5; c++) {
            Chain x = thirdTimeoutInTheChain(8);
            Check.due("the block is HIGH", x.message(0, 0, 2), 7);
            alterBoth(x, 0, noted(new Signed(SEED, 2, x.message(0, 0, 4), NaiveChain.fold(3, 8, 7))), c);
            x.deliver(0);
            Check.due("behind view 8", x.node(0, 1), 9);
            Chain y = Scenes.timedOut(SEED);
            Play.deliver(y, 1, 2);
            alterBoth(y, 1, noted(new Signed(SEED, 2, 0, NaiveChain.fold(3, 1, 0))), c);
            y.deliver(1);
            Check.due("behind view 1", y.node(1, 1), 2);
        }
    }

    private static void digitsAtTheirEdges() {
        int[] most = {15, 15, 15, 15, 15, 3};
        for (int c = 0; c < 6; c++) {
            Check.due("the least digit " + c + " that was tried", LEAST[c], 0);
            Check.due("the greatest", MOST[c], most[c]);
        }
        for (int b = 1; b <= 66; b++) {
            noEdgeOfAll(NaiveChain.fold(1, b));
            noEdgeOfAll(NaiveChain.fold(2, b));
            for (int v = 1; v <= 128; v++) {
                noEdgeOfAll(NaiveChain.fold(3, v, b));
                noEdgeOfAll(NaiveChain.fold(3, v, 0));
            }
        }
    }

    private static void noEdgeOfAll(long m) {
        long low = NaiveChain.fold(m) & 65535;
        Check.holds("not all digits are 0 or 15", low != 0 && low != 65535);
    }

    private static void keysOfOthers() {
        for (int other = 0; other < 3; other++) {
            Chain x = lieWithKey(0);
            Signed s = new Signed(SEED, other, 0, NaiveChain.fold(1, 1));
            x.alter(1, 0, 1);
            x.alter(1, 1, s.nextPartsMask(0, 1));
            x.deliver(1);
            Check.due("what would do for node " + other, x.block(1, 4), 8);
        }
        for (int k = 1; k < 32; k++) {
            Chain x = lieWithKey(0);
            Signed s = new Signed(SEED, 3, k, NaiveChain.fold(1, 1));
            x.alter(1, 0, 1);
            x.alter(1, 1, s.nextPartsMask(0, 1));
            x.deliver(1);
            Check.due("what would do for key " + k, x.block(1, 4), 8);
        }
    }
}
