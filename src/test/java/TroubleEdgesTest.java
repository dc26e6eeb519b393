/**
 * Promises 6 to 12, what goes wrong, sentence by sentence: the last value that is taken and the first that is
 * refused, the least and the greatest int and long, and two wrong things at once. Behind each refused call
 * everything is as before. A line that begins with "Not reached" names a sentence whose edge no run of 512 calls
 * comes to.
 */
public final class TroubleEdgesTest {
    private static final int NONE = QuorumChain.NONE;
    private static final int LEAST = Integer.MIN_VALUE;
    private static final int MOST = Integer.MAX_VALUE;
    private static final int[] NO_NODES = {-1, 4, LEAST, MOST};
    private static final long[] MASKS = {1, -1, Long.MIN_VALUE, Long.MAX_VALUE, 1L << 32};

    private TroubleEdgesTest() {
    }

    public static void main(String[] args) {
        promise6();
        promise7();
        promise8();
        promise9();
        promise10();
        promise11();
        promise12();
        Check.end();
    }

    private static void promise6() {
        Check.sentence("is lost (how 0), goes behind all others (1), or gets a copy behind all others (2)",
                TroubleEdgesTest::disturbOneOfOne);
        Check.sentence("is lost (how 0), goes behind all others (1), or gets a copy behind all others (2)",
                TroubleEdgesTest::disturbTheFirstOfThree);
        Check.sentence("there is no such node, or how is not 0 .. 2", TroubleEdgesTest::disturbNoNode);
        Check.sentence("there is no such node, or how is not 0 .. 2", TroubleEdgesTest::disturbInNoWay);
        Check.sentence("IllegalStateException: there is none, or (2) there are 16.", TroubleEdgesTest::disturbNothing);
        Check.sentence("or (2) there are 16.", TroubleEdgesTest::copyWhenThereAreSixteen);
        Check.sentence("IllegalArgumentException comes before IllegalStateException.",
                TroubleEdgesTest::disturbWithTwoWrongThings);
    }

    private static Chain votesToNodeOne(int count) {
        Chain x = new Chain(4);
        x.begin();
        x.disturb(1, 0);
        for (int k = 0; k < count; k++) {
            x.lieVote(1, 1);
        }
        return x;
    }

    private static void keysOfMessages(String what, Chain x, int i, int... due) {
        Check.due(what + ": messages", x.node(i, 11), due.length);
        for (int k = 0; k < due.length; k++) {
            Check.due(what + ": key of message " + k, x.message(i, k, 4), due[k]);
        }
    }

    private static void disturbOneOfOne() {
        for (int i = 0; i < 4; i++) {
            Chain x = new Chain(4);
            x.begin();
            Check.holds("one goes behind itself", x.disturb(i, 1));
            Check.due("it is there", x.node(i, 11), 1);
            Check.holds("it gets a copy", x.disturb(i, 2));
            Check.due("there are two", x.node(i, 11), 2);
            Check.holds("one is lost", x.disturb(i, 0));
            Check.holds("both are lost", x.disturb(i, 0));
            Check.due("there is none", x.node(i, 11), 0);
            Check.due("the others' are there", x.node((i + 1) % 4, 11), 1);
        }
    }

    private static void disturbTheFirstOfThree() {
        for (int how = 0; how < 3; how++) {
            int[][] due = {{1, 2}, {1, 2, 0}, {0, 1, 2, 0}};
            Chain x = votesToNodeOne(3);
            Check.holds("how " + how, x.disturb(1, how));
            keysOfMessages("how " + how, x, 1, due[how]);
        }
    }

    private static void disturbNoNode() {
        Chain x = votesToNodeOne(3);
        for (int i : NO_NODES) {
            for (int how = 0; how < 3; how++) {
                int h = how;
                Check.refusesArgument("node " + i + ", how " + how, x, () -> x.disturb(i, h));
            }
        }
        Check.holds("node 3", x.disturb(3, 0));
        Check.holds("node 0", x.disturb(0, 0));
    }

    private static void disturbInNoWay() {
        Chain x = votesToNodeOne(3);
        for (int how : new int[] {-1, 3, LEAST, MOST}) {
            Check.refusesArgument("how " + how, x, () -> x.disturb(1, how));
        }
        keysOfMessages("all are there", x, 1, 0, 1, 2);
    }

    private static void disturbNothing() {
        for (int how = 0; how < 3; how++) {
            int h = how;
            Chain x = votesToNodeOne(1);
            x.crash(2);
            Check.refusesState("nothing to one that is down", x, () -> x.disturb(2, h));
            x.disturb(1, 0);
            Check.refusesState("nothing left", x, () -> x.disturb(1, h));
            x.lieVote(2, 1);
            Check.holds("one on the way to one that is down", x.disturb(2, how));
        }
    }

    private static void copyWhenThereAreSixteen() {
        Chain x = votesToNodeOne(15);
        Check.holds("a copy when there are 15", x.disturb(1, 2));
        Check.due("there are 16", x.node(1, 11), 16);
        Check.refusesState("a copy when there are 16", x, () -> x.disturb(1, 2));
        Check.holds("behind 15 others", x.disturb(1, 1));
        Check.due("the first is the second now", x.message(1, 0, 4), 1);
        Check.due("the last was the first", x.message(1, 15, 4), 0);
        Check.due("there are 16 still", x.node(1, 11), 16);
        Check.refusesState("a copy again", x, () -> x.disturb(1, 2));
        Check.holds("one of 16 is lost", x.disturb(1, 0));
        Check.due("there are 15", x.node(1, 11), 15);
        Check.holds("a copy then", x.disturb(1, 2));
        Check.due("of the first", x.message(1, 15, 4), 2);
    }

    private static void disturbWithTwoWrongThings() {
        Chain x = votesToNodeOne(16);
        x.disturb(0, 0);
        for (int how : new int[] {-1, 3, LEAST, MOST}) {
            Check.refusesArgument("no message, how " + how, x, () -> x.disturb(0, how));
            Check.refusesArgument("16 messages, how " + how, x, () -> x.disturb(1, how));
            Check.refusesArgument("no node, how " + how, x, () -> x.disturb(how == 3 ? 4 : how, how));
        }
    }

    private static void promise7() {
        Check.sentence("a long of its signature becomes itself ^ mask: part 0 .. 5 or side 6 .. 10",
                TroubleEdgesTest::alterEachLong);
        Check.sentence("a long of its signature becomes itself ^ mask: part 0 .. 5 or side 6 .. 10",
                TroubleEdgesTest::alterBack);
        Check.sentence("In the first message to node i", TroubleEdgesTest::alterTheFirstAlone);
        Check.sentence("there is no such node, or which is not 0 .. 10", TroubleEdgesTest::alterNoNode);
        Check.sentence("there is no such node, or which is not 0 .. 10", TroubleEdgesTest::alterNoSuchLong);
        Check.sentence("IllegalStateException: there is no message, or it is not signed.",
                TroubleEdgesTest::alterNothing);
        Check.sentence("or it is not signed.", TroubleEdgesTest::alterWhatIsNotSigned);
        Check.sentence("IllegalArgumentException comes before IllegalStateException.",
                TroubleEdgesTest::alterWithTwoWrongThings);
    }

    private static void alterEachLong() {
        for (int which = 0; which <= 10; which++) {
            for (long mask : MASKS) {
                Chain x = new Chain(which);
                x.begin();
                Check.holds("alter " + which + " by " + mask, x.alter(1, which, mask));
                Check.due("its kind is answered", x.deliver(1), 1);
                Check.due("it does nothing", x.node(1, 9), 1);
                x.deliver(2);
                Check.due("the one to node 2 is good", x.node(2, 9), 2);
            }
        }
    }

    private static void alterBack() {
        for (int which = 0; which <= 10; which++) {
            Chain x = new Chain(which);
            x.begin();
            for (long mask : MASKS) {
                x.alter(1, which, mask);
                x.alter(1, which, mask);
            }
            Check.holds("mask 0", x.alter(1, which, 0));
            x.deliver(1);
            Check.due("each mask twice, and mask 0", x.node(1, 9), 2);
            x.alter(2, which, Long.MIN_VALUE);
            x.alter(2, which, Long.MAX_VALUE);
            x.alter(2, which, -1);
            x.deliver(2);
            Check.due("masks that make 0 together", x.node(2, 9), 2);
            x.alter(3, which, 1);
            x.alter(3, (which + 1) % 11, 1);
            x.deliver(3);
            Check.due("one mask in two places", x.node(3, 9), 1);
        }
    }

    private static void alterTheFirstAlone() {
        Chain x = new Chain(4);
        x.begin();
        x.disturb(1, 2);
        x.alter(1, 3, 1);
        x.deliver(1);
        Check.due("the first is not good", x.node(1, 9), 1);
        x.deliver(1);
        Check.due("its copy is", x.node(1, 9), 2);
        x.alter(2, 3, 1);
        x.disturb(2, 2);
        Play.deliver(x, 2, 2);
        Check.due("a copy made later is not", x.node(2, 9), 1);
    }

    private static void alterNoNode() {
        Chain x = new Chain(4);
        x.begin();
        for (int i : NO_NODES) {
            Check.refusesArgument("node " + i, x, () -> x.alter(i, 0, 1));
            Check.refusesArgument("node " + i + ", mask 0", x, () -> x.alter(i, 10, 0));
        }
        Check.holds("node 0", x.alter(0, 0, 1));
        Check.holds("node 3", x.alter(3, 10, 1));
    }

    private static void alterNoSuchLong() {
        Chain x = new Chain(4);
        x.begin();
        for (int which : new int[] {-1, 11, LEAST, MOST}) {
            for (long mask : new long[] {0, 1, Long.MIN_VALUE, Long.MAX_VALUE}) {
                Check.refusesArgument("which " + which, x, () -> x.alter(0, which, mask));
            }
        }
        x.deliver(0);
        Check.due("the signature is as it was", x.node(0, 9), 2);
        Check.due("and its vote is sent", x.message(0, 0, 0), 2);
    }

    private static void alterNothing() {
        Chain x = new Chain(4);
        x.begin();
        for (int i = 0; i < 4; i++) {
            int to = i;
            x.disturb(i, 0);
            Check.refusesState("nothing to node " + i, x, () -> x.alter(to, 0, 1));
            Check.refusesState("nothing, mask 0", x, () -> x.alter(to, 10, 0));
        }
        x.crash(2);
        Check.refusesState("nothing to one that is down", x, () -> x.alter(2, 0, 1));
        x.lieVote(2, 1);
        Check.holds("a vote for one that is down", x.alter(2, 0, 1));
    }

    private static void alterWhatIsNotSigned() {
        Chain x = Scenes.askedForBlockOne();
        for (int which : new int[] {0, 5, 6, 10}) {
            Check.refusesState("an ask", x, () -> x.alter(0, which, 1));
        }
        x.lieVote(0, 1);
        Check.refusesState("an ask before a vote", x, () -> x.alter(0, 0, 0));
        x.disturb(0, 1);
        Check.holds("the vote when it is first", x.alter(0, 0, 0));
        x.disturb(0, 1);
        x.deliver(0);
        for (int which : new int[] {0, 5, 6, 10}) {
            Check.refusesState("a block", x, () -> x.alter(1, which, 1));
        }
        x.deliver(1);
        Check.due("the block is good", x.block(1, 4), 15);
        Play.ticks(x, 6);
        Check.holds("a timeout", x.alter(1, 10, -1));
    }

    private static void alterWithTwoWrongThings() {
        Chain x = Scenes.askedForBlockOne();
        for (int which : new int[] {-1, 11, LEAST, MOST}) {
            Check.refusesArgument("not signed, which " + which, x, () -> x.alter(0, which, 1));
            Check.refusesArgument("no message, which " + which, x, () -> x.alter(1, which, 1));
            Check.refusesArgument("no node, which " + which, x, () -> x.alter(which == 11 ? 4 : which, which, 1));
        }
    }

    private static void promise8() {
        Check.sentence("IllegalArgumentException: there is no node i or block p", TroubleEdgesTest::lieToNoNode);
        Check.sentence("there is no node i or block p", TroubleEdgesTest::lieOnNoBlock);
        Check.sentence("t is no transaction and not NONE", TroubleEdgesTest::lieWithNoTransaction);
        Check.sentence("v is not 1 .. 60 or not a view of which node 3 is the leader",
                TroubleEdgesTest::lieInItsOwnViewsAlone);
        Check.sentence("IllegalStateException: node 3 is down", TroubleEdgesTest::lieWhileDown);
        Check.sentence("has no key", TroubleEdgesTest::lieWithTheLastKey);
        Check.sentence("or has not p", TroubleEdgesTest::lieOnWhatItHasNot);
        Check.sentence("p is not certified", TroubleEdgesTest::lieOnWhatIsNotCertified);
        Check.sentence("or not below v in view", TroubleEdgesTest::lieBelowItsParent);
        // Not reached: "or there are 100 blocks". Each block takes one of node 3's keys (a lie), or keys of three
        // nodes (votes or timeouts: a leader counts each signature once, and a crash takes those that are on the
        // way), but for block 0 and begin's: at most 2 + 32 + 96 / 3 = 66 blocks.
        Check.sentence("IllegalArgumentException comes before IllegalStateException.",
                TroubleEdgesTest::lieWithTwoWrongThings);
        Check.sentence("a signed PROPOSAL of it to node i alone: answers the block", TroubleEdgesTest::lieToEachNode);
    }

    private static void lieToNoNode() {
        Chain x = new Chain(6);
        for (int i : NO_NODES) {
            Check.refusesArgument("node " + i, x, () -> x.lie(i, 13, 0, NONE));
        }
        Check.due("node 0", x.lie(0, 13, 0, NONE), 1);
        Check.due("node 3", x.lie(3, 13, 0, NONE), 2);
    }

    private static void lieOnNoBlock() {
        Chain x = new Chain(6);
        for (int p : new int[] {-1, 1, 99, 100, LEAST, MOST}) {
            Check.refusesArgument("block " + p + " of 1", x, () -> x.lie(0, 13, p, NONE));
        }
        Chain y = Scenes.withBlockTwoProposed(6);
        for (int p : new int[] {-1, 3, 99, 100, LEAST, MOST}) {
            Check.refusesArgument("block " + p + " of 3", y, () -> y.lie(0, 13, p, NONE));
        }
        Check.refusesState("block 2 is there", y, () -> y.lie(0, 13, 2, NONE));
        Check.due("on block 1", y.lie(0, 13, 1, NONE), 3);
        Check.due("on block 0", y.lie(0, 13, 0, NONE), 4);
    }

    private static void lieWithNoTransaction() {
        for (int count : new int[] {0, 1, 40}) {
            Chain x = Scenes.withTransactions(count);
            for (int t : new int[] {-2, count, count + 1, 40, LEAST, MOST}) {
                Check.refusesArgument("transaction " + t + " of " + count, x, () -> x.lie(0, 13, 0, t));
            }
            Check.due("NONE", x.lie(0, 13, 0, NONE), 1);
            Check.due("its block has none", x.block(1, 2), NONE);
            Check.due("the last there is", x.lie(0, 13, 0, count - 1), 2);
            Check.due("its block has it", x.block(2, 2), count - 1);
            Check.due("the first there is", x.lie(0, 13, 0, Math.min(0, count - 1)), 3);
            Check.due("its block has that", x.block(3, 2), Math.min(0, count - 1));
        }
    }

    private static void lieInItsOwnViewsAlone() {
        Chain x = new Chain(6);
        int made = 0;
        for (int v = -20; v <= 90; v++) {
            int view = v;
            boolean taken = v >= 13 && v <= 16 || v >= 29 && v <= 32 || v >= 45 && v <= 48;
            if (taken) {
                made++;
                Check.due("view " + v, x.lie(1, v, 0, NONE), made);
                Check.due("its view", x.block(made, 0), v);
            } else {
                Check.refusesArgument("view " + v, x, () -> x.lie(1, view, 0, NONE));
            }
        }
        for (int v : new int[] {LEAST, LEAST + 1, MOST - 1, MOST}) {
            Check.refusesArgument("view " + v, x, () -> x.lie(1, v, 0, NONE));
        }
    }

    private static void lieWhileDown() {
        Chain x = new Chain(6);
        x.crash(3);
        Check.refusesState("down", x, () -> x.lie(0, 13, 0, NONE));
        x.restart(3);
        Check.due("up again", x.lie(0, 13, 0, NONE), 1);
        for (int i = 0; i < 3; i++) {
            x.crash(i);
        }
        Check.due("all others are down", x.lie(0, 13, 0, NONE), 2);
        Check.due("it is on the way", x.node(0, 11), 1);
    }

    private static void lieWithTheLastKey() {
        Chain x = Scenes.withLiarsKeysUsed(31);
        Check.due("with the last key", x.lie(0, 13, 0, NONE), 2);
        Check.due("key 31", x.message(0, 0, 4), 31);
        Check.due("all are used", x.node(3, 7), 32);
        Check.refusesState("without a key", x, () -> x.lie(0, 13, 0, NONE));
        x.crash(3);
        x.restart(3);
        Check.refusesState("without a key behind a crash", x, () -> x.lie(0, 13, 0, NONE));
        x.deliver(0);
        Check.due("the last key's signature is good", x.node(0, 5), 13);
    }

    private static void lieOnWhatItHasNot() {
        Chain x = new Chain(6);
        x.begin();
        x.disturb(3, 2);
        x.disturb(3, 1);
        for (int i = 0; i < 3; i++) {
            x.deliver(i);
        }
        Play.deliver(x, 0, 3);
        Check.due("block 1 is certified", x.block(1, 3), 1);
        Check.refusesState("node 3 has it not", x, () -> x.lie(0, 13, 1, NONE));
        x.deliver(3);
        Check.due("node 3 has it", x.block(1, 4), 15);
        Check.due("then it lies on it", x.lie(0, 13, 1, NONE), 3);
    }

    private static void lieOnWhatIsNotCertified() {
        Chain x = new Chain(6);
        x.begin();
        x.deliver(3);
        x.deliver(1);
        Play.deliver(x, 0, 3);
        Check.due("block 1 has two votes and node 0's proposal", x.block(1, 3), 0);
        Check.refusesState("it is not certified", x, () -> x.lie(1, 13, 1, NONE));
        x.deliver(0);
        Check.due("it is now", x.block(1, 3), 1);
        Check.due("then it lies on it", x.lie(1, 13, 1, NONE), 3);
        Check.refusesState("but not on that", x, () -> x.lie(1, 14, 3, NONE));
    }

    private static void lieBelowItsParent() {
        Chain x = Scenes.forked();
        Check.due("view of block 7", x.block(7, 0), 14);
        Check.due("block 7 is certified", x.block(7, 3), 1);
        Check.refusesState("one below", x, () -> x.lie(2, 13, 7, NONE));
        Check.refusesState("the same view", x, () -> x.lie(2, 14, 7, NONE));
        Check.due("one above", x.lie(2, 15, 7, NONE), 9);
        Check.due("two above", x.lie(2, 16, 7, NONE), 10);
        Check.due("far above", x.lie(2, 48, 7, NONE), 11);
        Check.due("far below, on block 0", x.lie(2, 13, 0, NONE), 12);
    }

    private static void wrongLies(String state, Chain x, int p) {
        for (int i : NO_NODES) {
            Check.refusesArgument(state + ", node " + i, x, () -> x.lie(i, 13, p, NONE));
        }
        for (int b : new int[] {-1, 40, LEAST, MOST}) {
            Check.refusesArgument(state + ", block " + b, x, () -> x.lie(0, 13, b, NONE));
        }
        for (int t : new int[] {-2, 40, LEAST, MOST}) {
            Check.refusesArgument(state + ", transaction " + t, x, () -> x.lie(0, 13, p, t));
        }
        for (int v : new int[] {0, 12, 17, 61, LEAST, MOST}) {
            Check.refusesArgument(state + ", view " + v, x, () -> x.lie(0, v, p, NONE));
        }
    }

    private static void lieWithTwoWrongThings() {
        Chain x = new Chain(6);
        x.crash(3);
        wrongLies("down", x, 0);
        wrongLies("no key", Scenes.withLiarsKeysUsed(32), 0);
        Chain y = new Chain(6);
        y.begin();
        wrongLies("has not p", y, 1);
        y.deliver(3);
        wrongLies("p is not certified", y, 1);
        wrongLies("p is not below v", Scenes.forked(), 7);
    }

    private static void lieToEachNode() {
        for (int i = 0; i < 4; i++) {
            Chain x = new Chain(6);
            Check.due("the block", x.lie(i, 13, 0, NONE), 1);
            for (int j = 0; j < 4; j++) {
                Check.due("messages to node " + j, x.node(j, 11), i == j ? 1 : 0);
            }
            int[] sent = {1, 3, 1, 0, 0};
            for (int what = 0; what < sent.length; what++) {
                Check.due("the proposal, " + what, x.message(i, 0, what), sent[what]);
            }
            Check.due("who has it", x.block(1, 4), 8);
            x.deliver(i);
            Check.due("who has it then", x.block(1, 4), 8 | 1 << i);
        }
    }

    private static void promise9() {
        Check.sentence("there is no node i or block b", TroubleEdgesTest::lieVoteToNoNode);
        Check.sentence("there is no node i or block b", TroubleEdgesTest::lieVoteForNoBlock);
        Check.sentence("or b is block 0", TroubleEdgesTest::lieVoteForBlockZero);
        Check.sentence("IllegalStateException: node 3 is down, or has no key", TroubleEdgesTest::lieVoteWhileDown);
        Check.sentence("or has no key", TroubleEdgesTest::lieVoteWithTheLastKey);
        Check.sentence("IllegalArgumentException comes before IllegalStateException.",
                TroubleEdgesTest::lieVoteWithTwoWrongThings);
        Check.sentence("a signed VOTE for block b goes to node i: true", TroubleEdgesTest::lieVoteToEachNode);
    }

    private static void lieVoteToNoNode() {
        Chain x = new Chain(6);
        x.begin();
        for (int i : NO_NODES) {
            Check.refusesArgument("node " + i, x, () -> x.lieVote(i, 1));
        }
        Check.holds("node 0", x.lieVote(0, 1));
        Check.holds("node 3", x.lieVote(3, 1));
    }

    private static void lieVoteForNoBlock() {
        Chain x = new Chain(6);
        for (int b : new int[] {-1, 1, 99, 100, LEAST, MOST}) {
            Check.refusesArgument("block " + b + " of 1", x, () -> x.lieVote(0, b));
        }
        Chain y = Scenes.withBlockTwoProposed(6);
        for (int b : new int[] {-1, 3, 99, 100, LEAST, MOST}) {
            Check.refusesArgument("block " + b + " of 3", y, () -> y.lieVote(0, b));
        }
        Check.holds("block 1", y.lieVote(0, 1));
        Check.holds("block 2, that node 3 has not", y.lieVote(0, 2));
    }

    private static void lieVoteForBlockZero() {
        Chain x = new Chain(6);
        for (int i = 0; i < 4; i++) {
            int to = i;
            Check.refusesState("block 0, node " + i, x, () -> x.lieVote(to, 0));
        }
        x.begin();
        Check.refusesState("block 0", x, () -> x.lieVote(0, 0));
        Check.holds("block 1", x.lieVote(0, 1));
        Check.due("with the first key", x.message(0, 1, 4), 0);
    }

    private static void lieVoteWhileDown() {
        Chain x = new Chain(6);
        x.begin();
        x.crash(3);
        Check.refusesState("down", x, () -> x.lieVote(0, 1));
        Check.refusesState("down, and for block 0", x, () -> x.lieVote(0, 0));
        x.restart(3);
        Check.holds("up again", x.lieVote(0, 1));
    }

    private static void lieVoteWithTheLastKey() {
        Chain x = Scenes.withLiarsKeysUsed(31);
        Check.holds("with the last key", x.lieVote(0, 1));
        Check.due("key 31", x.message(0, 0, 4), 31);
        Check.due("all are used", x.node(3, 7), 32);
        Check.refusesState("without a key", x, () -> x.lieVote(0, 1));
        Check.refusesState("without a key, and for block 0", x, () -> x.lieVote(0, 0));
        x.crash(3);
        x.restart(3);
        Check.refusesState("without a key behind a crash", x, () -> x.lieVote(0, 1));
    }

    private static void wrongLieVotes(String state, Chain x) {
        for (int i : NO_NODES) {
            Check.refusesArgument(state + ", node " + i, x, () -> x.lieVote(i, 1));
            Check.refusesArgument(state + ", block 0 to node " + i, x, () -> x.lieVote(i, 0));
        }
        for (int b : new int[] {-1, 2, LEAST, MOST}) {
            Check.refusesArgument(state + ", block " + b, x, () -> x.lieVote(0, b));
        }
    }

    private static void lieVoteWithTwoWrongThings() {
        Chain x = new Chain(6);
        x.begin();
        x.crash(3);
        wrongLieVotes("down", x);
        wrongLieVotes("no key", Scenes.withLiarsKeysUsed(32));
    }

    private static void lieVoteToEachNode() {
        for (int i = 0; i < 4; i++) {
            Chain x = new Chain(6);
            x.begin();
            x.disturb(i, 0);
            Check.holds("lieVote", x.lieVote(i, 1));
            Check.holds("lieVote again", x.lieVote(i, 1));
            int[] sent = {2, 3, 1, 0, 1};
            for (int what = 0; what < sent.length; what++) {
                Check.due("the second vote, " + what, x.message(i, 1, what), sent[what]);
            }
            Check.due("nothing goes to another node", x.node((i + 1) % 4, 11), 1);
            Check.due("node 3 has not voted", x.node(3, 5), 0);
            Check.due("nor has it the block", x.block(1, 4), 1);
        }
        Chain y = new Chain(6);
        y.begin();
        y.crash(1);
        Check.holds("to one that is down", y.lieVote(1, 1));
        Check.due("it is on the way", y.node(1, 11), 1);
    }

    private static void promise10() {
        Check.sentence("A tick; answers the clock.", TroubleEdgesTest::fiveHundredTicks);
        // Not reached: a clock that wraps around, as 512 calls are at most 512 ticks.
        Check.sentence("the clock grows by 1", TroubleEdgesTest::ticksWhileAllAreDown);
    }

    private static void fiveHundredTicks() {
        Chain x = new Chain(6);
        for (int k = 1; k <= Chain.CALLS; k++) {
            Check.due("tick", x.tick(), k);
        }
    }

    private static void ticksWhileAllAreDown() {
        Chain x = new Chain(6);
        for (int i = 0; i < 4; i++) {
            x.crash(i);
        }
        for (int k = 1; k <= 30; k++) {
            Check.due("tick", x.tick(), k);
        }
        Check.due("the clock", x.about(0), 30);
        for (int i = 0; i < 4; i++) {
            Check.due("nothing is sent to node " + i, x.node(i, 11), 0);
            Check.due("no key is used", x.node(i, 7), 0);
            x.restart(i);
            Check.due("its timer starts anew", x.node(i, 2), 6);
        }
    }

    private static void promise11() {
        Check.sentence("Node i crashes: true. IllegalArgumentException: there is no such node.",
                TroubleEdgesTest::crashNoNode);
        Check.sentence("IllegalStateException: it is down.", TroubleEdgesTest::crashTwice);
    }

    private static void crashNoNode() {
        Chain x = new Chain(6);
        for (int i : NO_NODES) {
            Check.refusesArgument("node " + i, x, () -> x.crash(i));
        }
        for (int i = 0; i < 4; i++) {
            Check.holds("crash(" + i + ")", x.crash(i));
            Check.due("it is down", x.node(i, 0), 0);
        }
        for (int i : NO_NODES) {
            Check.refusesArgument("node " + i + ", all are down", x, () -> x.crash(i));
        }
    }

    private static void crashTwice() {
        for (int i = 0; i < 4; i++) {
            int down = i;
            Chain x = new Chain(6);
            x.begin();
            x.crash(i);
            Check.refusesState("crash again", x, () -> x.crash(down));
            Play.ticks(x, 6);
            Check.due("timeouts of the others are on the way", x.node(i, 11), 3);
            Check.refusesState("crash with messages on the way", x, () -> x.crash(down));
            x.restart(i);
            Check.holds("crash when it is up again", x.crash(i));
        }
    }

    private static void promise12() {
        Check.sentence("Node i starts: true. IllegalArgumentException: there is no such node.",
                TroubleEdgesTest::restartNoNode);
        Check.sentence("IllegalStateException: it is up.", TroubleEdgesTest::restartTwice);
    }

    private static void restartNoNode() {
        Chain x = new Chain(6);
        for (int i : NO_NODES) {
            Check.refusesArgument("node " + i + ", all are up", x, () -> x.restart(i));
        }
        for (int i = 0; i < 4; i++) {
            x.crash(i);
        }
        for (int i : NO_NODES) {
            Check.refusesArgument("node " + i, x, () -> x.restart(i));
        }
        for (int i = 0; i < 4; i++) {
            Check.holds("restart(" + i + ")", x.restart(i));
            Check.due("it is up", x.node(i, 0), 1);
        }
    }

    private static void restartTwice() {
        for (int i = 0; i < 4; i++) {
            int up = i;
            Chain x = Scenes.withBlockTwoProposed(6);
            x.tick();
            Check.refusesState("restart one that never crashed", x, () -> x.restart(up));
            x.crash(i);
            x.restart(i);
            x.tick();
            Check.refusesState("restart again", x, () -> x.restart(up));
        }
    }
}
