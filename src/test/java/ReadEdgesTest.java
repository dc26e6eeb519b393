import java.util.List;

/**
 * Promises 13 to 19, sentence by sentence: what the calls that only answer say at their edges, behind them,
 * and for the least and the greatest int; none of them ever changes anything.
 */
public final class ReadEdgesTest {
    private static final int NONE = QuorumChain.NONE;
    private static final int LEAST = Integer.MIN_VALUE;
    private static final int MOST = Integer.MAX_VALUE;
    private static final int[] NO_NODES = {-1, 4, LEAST, MOST};

    private ReadEdgesTest() {
    }

    public static void main(String[] args) {
        promise13();
        promise14();
        promise15();
        promise16();
        promise17();
        promise18();
        promise19();
        Check.end();
    }

    /** Node 1 has a view, a HIGH, a lock, a log, a pool and messages; its timer and span differ. */
    private static Chain busy() {
        Chain x = new Chain(31);
        x.submit(0, x.transaction(3, 1, 40, 0));
        x.submit(1, 0);
        x.begin();
        Play.runUntilBlock(x, 4);
        Play.deliverAll(x, 1);
        Play.ticks(x, 7);
        return x;
    }

    private static void promise13() {
        Check.sentence("NONE when there is no such node, or what is not 0 .. 11", ReadEdgesTest::noSuchNode);
        Check.sentence("or what is not 0 .. 11", ReadEdgesTest::nothingOfANode);
        Check.sentence("1 to 4 and 10 are 0 while it is down.", ReadEdgesTest::nodeWhileDown);
        Check.sentence("what 0: 1 if it is up, else 0", ReadEdgesTest::nodeIsUp);
        Check.sentence("10: transactions in its pool; 11: messages on the way to it", ReadEdgesTest::nodeWhenFull);
        Check.sentence("What throws changes nothing.", ReadEdgesTest::readingChangesNothing);
    }

    private static void noSuchNode() {
        Chain x = busy();
        for (int i : NO_NODES) {
            for (int what = 0; what <= 11; what++) {
                Check.due("node(" + i + ", " + what + ")", x.node(i, what), NONE);
            }
            Check.due("neither node nor what", x.node(i, i), NONE);
        }
        Check.due("node 0 is there", x.node(0, 0), 1);
        Check.due("node 3 is there", x.node(3, 0), 1);
    }

    private static void nothingOfANode() {
        Chain x = busy();
        x.crash(2);
        for (int i = 0; i < 4; i++) {
            for (int what : new int[] {-1, 12, LEAST, MOST}) {
                Check.due("node(" + i + ", " + what + ")", x.node(i, what), NONE);
            }
        }
        Check.due("what 0 is there", x.node(1, 0), 1);
        Check.due("what 11 is there", x.node(1, 11), 4);
    }

    private static void nodeWhileDown() {
        Chain x = busy();
        int[] up = {1, 4, 11, 12, 3, 4, 2, 5, 2, 5, 1, 4};
        int[] down = {0, 0, 0, 0, 0, 4, 2, 5, 2, 5, 0, 0};
        for (int what = 0; what <= 11; what++) {
            Check.due("up, " + what, x.node(1, what), up[what]);
        }
        x.crash(1);
        for (int what = 0; what <= 11; what++) {
            Check.due("down, " + what, x.node(1, what), down[what]);
        }
        Play.ticks(x, 11);
        Check.due("messages to one that is down", x.node(1, 11), 3);
    }

    private static void nodeIsUp() {
        Chain x = new Chain(31);
        for (int i = 0; i < 4; i++) {
            Check.due("up", x.node(i, 0), 1);
            x.crash(i);
            Check.due("down", x.node(i, 0), 0);
            x.restart(i);
            Check.due("up again", x.node(i, 0), 1);
        }
    }

    private static void nodeWhenFull() {
        Chain x = new Chain(31);
        Check.due("an empty pool", x.node(2, 10), 0);
        for (int t = 0; t < 40; t++) {
            x.submit(2, x.transaction(0, 1, 1, 0));
        }
        Check.due("a full pool", x.node(2, 10), 40);
        Check.due("no message", x.node(2, 11), 0);
        x.begin();
        Play.fill(x, 2, 16);
        Check.due("sixteen messages", x.node(2, 11), 16);
    }

    private static void readingChangesNothing() {
        Chain x = busy();
        List<Long> before = x.all();
        List<String> foreseen = x.foreseen();
        Check.same("read once more", x.all(), before);
        for (int i : new int[] {-1, 0, 3, 4, LEAST, MOST}) {
            for (int k : new int[] {-1, 0, 3, 40, LEAST, MOST}) {
                x.node(i, k);
                x.log(i, k);
                x.account(i, k, i);
                x.block(i, k);
                x.message(i, k, 2);
            }
            x.root(i);
            x.about(i);
        }
        Check.same("seen as before", x.all(), before);
        Check.same("foreseen as before", x.foreseen(), foreseen);
    }

    private static void promise14() {
        Check.sentence("Block k (0 the first) of node i's log; NONE when there is none.", ReadEdgesTest::logOfOne);
        Check.sentence("Block k (0 the first) of node i's log; NONE when there is none.", ReadEdgesTest::logOfTwo);
        Check.sentence("Block k (0 the first) of node i's log; NONE when there is none.", ReadEdgesTest::noNodesLog);
    }

    private static void noneBehindTheLog(Chain x, int i, int length) {
        for (int k : new int[] {-1, length, length + 1, 99, 100, LEAST, MOST}) {
            Check.due("log(" + i + ", " + k + ")", x.log(i, k), NONE);
        }
    }

    private static void logOfOne() {
        Chain x = new Chain(31);
        for (int i = 0; i < 4; i++) {
            Check.due("block 0", x.log(i, 0), 0);
            noneBehindTheLog(x, i, 1);
        }
    }

    private static void logOfTwo() {
        Chain x = busy();
        Check.due("the first", x.log(1, 0), 0);
        Check.due("the last", x.log(1, 1), 1);
        noneBehindTheLog(x, 1, 2);
        x.crash(1);
        Check.due("the last while it is down", x.log(1, 1), 1);
        noneBehindTheLog(x, 1, 2);
    }

    private static void noNodesLog() {
        Chain x = busy();
        for (int i : NO_NODES) {
            Check.due("log(" + i + ", 0)", x.log(i, 0), NONE);
            Check.due("log(" + i + ", " + i + ")", x.log(i, i), NONE);
        }
        Check.due("node 0's", x.log(0, 0), 0);
        Check.due("node 3's", x.log(3, 0), 0);
    }

    private static void promise15() {
        Check.sentence("NONE when there is no such node or account, or what is not 0 or 1",
                ReadEdgesTest::noNodesAccount);
        Check.sentence("no such node or account", ReadEdgesTest::noSuchAccount);
        Check.sentence("or what is not 0 or 1", ReadEdgesTest::nothingOfAnAccount);
        Check.sentence("what 0: its money; 1: its nonce", ReadEdgesTest::accountsOfEachNode);
    }

    private static void noNodesAccount() {
        Chain x = busy();
        for (int i : NO_NODES) {
            for (int what = 0; what <= 1; what++) {
                Check.due("account(" + i + ", 0, " + what + ")", x.account(i, 0, what), NONE);
            }
            Check.due("all is wrong", x.account(i, i, i), NONE);
        }
        Check.due("node 0's", x.account(0, 0, 0), 100);
        Check.due("node 3's", x.account(3, 0, 0), 100);
    }

    private static void noSuchAccount() {
        Chain x = busy();
        for (int a : NO_NODES) {
            for (int what = 0; what <= 1; what++) {
                Check.due("account(1, " + a + ", " + what + ")", x.account(1, a, what), NONE);
            }
        }
        Check.due("account 0", x.account(1, 0, 1), 0);
        Check.due("account 3", x.account(1, 3, 1), 1);
    }

    private static void nothingOfAnAccount() {
        Chain x = busy();
        for (int a = 0; a < 4; a++) {
            for (int what : new int[] {-1, 2, LEAST, MOST}) {
                Check.due("account(1, " + a + ", " + what + ")", x.account(1, a, what), NONE);
            }
        }
    }

    private static void accountsOfEachNode() {
        Chain x = busy();
        int[] money = {100, 140, 100, 60};
        for (int a = 0; a < 4; a++) {
            Check.due("money at node 1", x.account(1, a, 0), money[a]);
            Check.due("nonce at node 1", x.account(1, a, 1), a == 3 ? 1 : 0);
            Check.due("money at node 3", x.account(3, a, 0), 100);
            Check.due("nonce at node 3", x.account(3, a, 1), 0);
        }
        x.crash(1);
        for (int a = 0; a < 4; a++) {
            Check.due("money while it is down", x.account(1, a, 0), money[a]);
        }
    }

    private static void promise16() {
        Check.sentence("NONE when there is no such block, or what is not 0 .. 4.", ReadEdgesTest::noSuchBlock);
        Check.sentence("no such block, or what is not 0 .. 4.", ReadEdgesTest::nothingOfABlock);
        Check.sentence("1: its parent, NONE for block 0; 2: its transaction, NONE without one",
                ReadEdgesTest::blocksWithoutParentOrTransaction);
        Check.sentence("3: 1 if it is certified, else 0", ReadEdgesTest::certifiedBlocks);
        Check.sentence("4: for which nodes it is there, as bits", ReadEdgesTest::blocksAreThereForNodes);
        Check.sentence("(A view is never -1.)", ReadEdgesTest::viewsOfBlocks);
    }

    private static void noSuchBlock() {
        Chain x = new Chain(31);
        Chain y = busy();
        for (int what = 0; what <= 4; what++) {
            for (int b : new int[] {-1, 1, 99, 100, LEAST, MOST}) {
                Check.due("block(" + b + ", " + what + ") of 1", x.block(b, what), NONE);
            }
            for (int b : new int[] {-1, 5, 99, 100, LEAST, MOST}) {
                Check.due("block(" + b + ", " + what + ") of 5", y.block(b, what), NONE);
            }
        }
        Check.due("the last of 1", x.block(0, 0), 0);
        Check.due("the last of 5", y.block(4, 0), 4);
    }

    private static void nothingOfABlock() {
        Chain x = busy();
        for (int b = 0; b <= 5; b++) {
            for (int what : new int[] {-1, 5, LEAST, MOST}) {
                Check.due("block(" + b + ", " + what + ")", x.block(b, what), NONE);
            }
        }
        Check.due("neither block nor what", x.block(LEAST, LEAST), NONE);
    }

    private static void blocksWithoutParentOrTransaction() {
        Chain x = busy();
        Check.due("parent of block 0", x.block(0, 1), NONE);
        Check.due("parent of block 1", x.block(1, 1), 0);
        Check.due("transaction of block 0", x.block(0, 2), NONE);
        Check.due("transaction of block 1", x.block(1, 2), 0);
        Check.due("transaction of block 2", x.block(2, 2), NONE);
    }

    private static void certifiedBlocks() {
        Chain x = busy();
        int[] due = {1, 1, 1, 1, 0, NONE};
        for (int b = 0; b < due.length; b++) {
            Check.due("block " + b, x.block(b, 3), due[b]);
        }
    }

    private static void blocksAreThereForNodes() {
        Chain x = new Chain(31);
        Check.due("block 0", x.block(0, 4), 15);
        x.begin();
        Check.due("the leader", x.block(1, 4), 1);
        int bits = 1;
        for (int i : new int[] {3, 1, 0, 2}) {
            x.deliver(i);
            bits |= 1 << i;
            Check.due("with node " + i, x.block(1, 4), bits);
        }
        x.crash(2);
        Check.due("while node 2 is down", x.block(1, 4), 15);
        Chain y = new Chain(31);
        y.lie(0, 13, 0, NONE);
        Check.due("the block of a lie", y.block(1, 4), 8);
    }

    private static void viewsOfBlocks() {
        Chain x = new Chain(31);
        Check.due("block 0", x.block(0, 0), 0);
        x.begin();
        Check.due("block 1", x.block(1, 0), 1);
        x.lie(0, 13, 0, NONE);
        x.lie(0, 48, 0, NONE);
        Check.due("the least view of a lie", x.block(2, 0), 13);
        Check.due("the greatest view of a lie", x.block(3, 0), 48);
    }

    private static void promise17() {
        Check.sentence("NONE when there is none, or what is not 0 .. 4.", ReadEdgesTest::noNodesMessage);
        Check.sentence("Of message k (0 the first) to node i", ReadEdgesTest::noSuchMessage);
        Check.sentence("or what is not 0 .. 4.", ReadEdgesTest::nothingOfAMessage);
        Check.sentence("3: view (TIMEOUT, else 0); 4: the key of its signature, NONE without one",
                ReadEdgesTest::messagesOfEachKind);
    }

    private static void noNodesMessage() {
        Chain x = busy();
        for (int i : NO_NODES) {
            for (int what = 0; what <= 4; what++) {
                Check.due("message(" + i + ", 0, " + what + ")", x.message(i, 0, what), NONE);
            }
            Check.due("all is wrong", x.message(i, i, i), NONE);
        }
        Check.holds("node 0's", x.message(0, 0, 0) >= 1);
        Check.holds("node 3's", x.message(3, 0, 0) >= 1);
    }

    private static void noneBehindTheMessages(Chain x, int count) {
        for (int what = 0; what <= 4; what++) {
            for (int k : new int[] {-1, count, count + 1, 16, 17, LEAST, MOST}) {
                Check.due("message " + k + " of " + count + ", " + what, x.message(2, k, what), NONE);
            }
        }
    }

    private static void noSuchMessage() {
        for (int count : new int[] {0, 1, 2, 15, 16}) {
            Chain x = new Chain(31);
            x.begin();
            if (count == 0) {
                x.disturb(2, 0);
            }
            for (int k = 1; k < count; k++) {
                x.lieVote(2, 1);
            }
            noneBehindTheMessages(x, count);
            for (int k = 0; k < count; k++) {
                Check.due("kind of message " + k, x.message(2, k, 0), k == 0 ? 1 : 2);
                Check.due("key of message " + k, x.message(2, k, 4), Math.max(0, k - 1));
            }
        }
        Chain y = new Chain(31);
        y.begin();
        Play.fill(y, 2, 16);
        Play.deliver(y, 2, 16);
        noneBehindTheMessages(y, 0);
    }

    private static void nothingOfAMessage() {
        Chain x = busy();
        for (int k = 0; k <= 4; k++) {
            for (int what : new int[] {-1, 5, LEAST, MOST}) {
                Check.due("message(1, " + k + ", " + what + ")", x.message(1, k, what), NONE);
            }
        }
        Check.due("what 0 is there", x.message(1, 0, 0), 3);
        Check.due("what 4 is there", x.message(1, 0, 4), 7);
    }

    private static void message(String what, Chain x, int i, int k, int... due) {
        for (int w = 0; w < due.length; w++) {
            Check.due(what + ", " + w, x.message(i, k, w), due[w]);
        }
    }

    private static void messagesOfEachKind() {
        Chain x = Scenes.askedForBlockOne();
        message("an ask", x, 0, 0, 4, 1, 1, 0, NONE);
        x.deliver(0);
        message("a block", x, 1, 0, 5, 0, 1, 0, NONE);
        message("a proposal", x, 2, 0, 1, 0, 2, 0, 2);
        x.deliver(2);
        message("a vote", x, 0, 0, 2, 2, 2, 0, 1);
        Play.ticks(x, 6);
        message("a timeout", x, 3, 1, 3, 0, 1, 2, 3);
        message("another node's", x, 3, 2, 3, 1, 0, 1, 0);
    }

    private static void promise18() {
        Check.sentence("The root of node i; 0 when there is no such node.", ReadEdgesTest::noNodesRoot);
    }

    private static void noNodesRoot() {
        Chain x = new Chain(5);
        for (int i : NO_NODES) {
            Check.due("root(" + i + ")", x.root(i), 0);
        }
        NaiveChain y = new NaiveChain(5);
        for (int i = 0; i < 4; i++) {
            Check.due("root(" + i + ")", x.root(i), y.root(i));
            Check.holds("it is not 0", x.root(i) != 0);
            x.crash(i);
            Check.due("while it is down", x.root(i), y.root(i));
        }
        Check.due("of seed 5, node 0", x.root(0), -5117958693642979930L);
    }

    private static void promise19() {
        Check.sentence("NONE for another what.", ReadEdgesTest::aboutNothing);
        Check.sentence("what 0: the clock; 1: blocks; 2: transactions.", ReadEdgesTest::aboutAtTheirLimits);
    }

    private static void aboutNothing() {
        Chain x = busy();
        for (int what : new int[] {-1, 3, LEAST, MOST}) {
            Check.due("about(" + what + ")", x.about(what), NONE);
        }
        Check.due("about(0)", x.about(0), 7);
        Check.due("about(1)", x.about(1), 5);
        Check.due("about(2)", x.about(2), 1);
    }

    private static void aboutAtTheirLimits() {
        Chain x = new Chain(5);
        Check.due("no tick", x.about(0), 0);
        Check.due("block 0 alone", x.about(1), 1);
        Check.due("no transaction", x.about(2), 0);
        for (int t = 0; t < 40; t++) {
            x.transaction(0, 1, 1, 0);
        }
        Check.due("forty transactions", x.about(2), 40);
        for (int k = 1; k <= 32; k++) {
            x.lie(0, 13, 0, NONE);
        }
        Check.due("a block for each of node 3's keys", x.about(1), 33);
        Play.ticks(x, 300);
        Check.due("many ticks", x.about(0), 300);
    }
}
