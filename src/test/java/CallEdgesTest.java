import java.util.HashSet;
import java.util.Set;

/**
 * Promises 1 to 5, sentence by sentence: the last value that is taken and the first that is refused, the least
 * and the greatest int and long, and two wrong things at once. Behind each refused call everything is as before.
 */
public final class CallEdgesTest {
    private static final int NONE = QuorumChain.NONE;
    private static final int LEAST = Integer.MIN_VALUE;
    private static final int MOST = Integer.MAX_VALUE;
    private static final int[] NO_NODES = {-1, 4, LEAST, MOST};
    private static final int[] NO_AMOUNTS = {-1, 1001, LEAST, MOST};

    private CallEdgesTest() {
    }

    public static void main(String[] args) {
        promise1();
        promise2();
        promise3();
        promise4();
        promise5();
        Check.end();
    }

    private static void promise1() {
        Check.sentence("Four nodes that are up", CallEdgesTest::fourNodesAreUp);
        Check.sentence("with keys from a seed", CallEdgesTest::keysComeFromTheSeed);
        Check.sentence("no messages", CallEdgesTest::noMessagesAtFirst);
        Check.sentence("no transactions", CallEdgesTest::noTransactionsAtFirst);
    }

    private static void fourNodesAreUp() {
        Chain x = new Chain(1);
        for (int i = 0; i < 4; i++) {
            Check.due("node " + i + " is up", x.node(i, 0), 1);
            int up = i;
            Check.refusesState("restart of a new node", x, () -> x.restart(up));
        }
        for (int i : NO_NODES) {
            Check.due("no node " + i, x.node(i, 0), NONE);
        }
    }

    private static void keysComeFromTheSeed() {
        Set<Long> roots = new HashSet<>();
        int[] seeds = {LEAST, -1, 0, 1, MOST};
        for (int seed : seeds) {
            Chain x = new Chain(seed);
            NaiveChain y = new NaiveChain(seed);
            Check.same("seed " + seed, x.all(), Watch.all(y));
            Check.same("seed " + seed + " again", new Chain(seed).all(), x.all());
            for (int i = 0; i < 4; i++) {
                roots.add(x.root(i));
            }
            x.begin();
            x.deliver(1);
            Check.due("a signature with seed " + seed + " is good", x.node(1, 9), 2);
        }
        Check.due("different roots", roots.size(), 4 * seeds.length);
    }

    private static void noMessagesAtFirst() {
        Chain x = new Chain(1);
        for (int i = 0; i < 4; i++) {
            int to = i;
            Check.due("messages to node " + i, x.node(i, 11), 0);
            Check.due("the first of them", x.message(i, 0, 0), NONE);
            Check.refusesState("deliver it", x, () -> x.deliver(to));
            Check.refusesState("disturb it", x, () -> x.disturb(to, 0));
            Check.refusesState("alter it", x, () -> x.alter(to, 0, 1));
        }
    }

    private static void noTransactionsAtFirst() {
        Chain x = new Chain(1);
        Check.due("transactions", x.about(2), 0);
        Check.refusesArgument("submit the first", x, () -> x.submit(0, 0));
        Check.refusesArgument("lie with it", x, () -> x.lie(0, 13, 0, 0));
        Check.due("the first one", x.transaction(0, 1, 1, 0), 0);
        Check.holds("submit it then", x.submit(0, 0));
    }

    private static void promise2() {
        Check.sentence("A new transaction, 0, 1, ..", CallEdgesTest::transactionsCountUp);
        Check.sentence("from or to is not 0 .. 3", CallEdgesTest::fromIsAnAccount);
        Check.sentence("from or to is not 0 .. 3", CallEdgesTest::toIsAnAccount);
        Check.sentence("amount or nonce is not 0 .. 1000", CallEdgesTest::amountHasItsLimits);
        Check.sentence("amount or nonce is not 0 .. 1000", CallEdgesTest::nonceHasItsLimits);
        Check.sentence("IllegalStateException: there are 40.", CallEdgesTest::fortyTransactions);
        Check.sentence("IllegalArgumentException comes before IllegalStateException.",
                CallEdgesTest::aWrongTransactionWhenThereAreForty);
    }

    private static void transactionsCountUp() {
        Chain x = new Chain(1);
        for (int t = 0; t < 40; t++) {
            Check.due("transactions before", x.about(2), t);
            Check.due("the answer", x.transaction(t % 4, t / 4 % 4, t, 0), t);
        }
        Check.due("transactions", x.about(2), 40);
    }

    private static void fromIsAnAccount() {
        Chain x = new Chain(1);
        Check.due("from 0", x.transaction(0, 1, 1, 0), 0);
        Check.due("from 3", x.transaction(3, 1, 1, 0), 1);
        for (int from : NO_NODES) {
            Check.refusesArgument("from " + from, x, () -> x.transaction(from, 1, 1, 0));
            Check.refusesArgument("from and to " + from, x, () -> x.transaction(from, from, 1, 0));
        }
        Check.due("the next", x.transaction(3, 0, 1, 0), 2);
    }

    private static void toIsAnAccount() {
        Chain x = new Chain(1);
        Check.due("to 0", x.transaction(1, 0, 1, 0), 0);
        Check.due("to 3", x.transaction(1, 3, 1, 0), 1);
        for (int to : NO_NODES) {
            Check.refusesArgument("to " + to, x, () -> x.transaction(1, to, 1, 0));
        }
        Check.due("the next", x.transaction(1, 1, 1, 0), 2);
    }

    private static void amountHasItsLimits() {
        Chain x = new Chain(1);
        Check.due("amount 0", x.transaction(0, 1, 0, 1), 0);
        Check.due("amount 1000", x.transaction(0, 1, 1000, 1), 1);
        for (int amount : NO_AMOUNTS) {
            Check.refusesArgument("amount " + amount, x, () -> x.transaction(0, 1, amount, 1));
        }
        Check.due("the next", x.transaction(0, 1, 1000, 0), 2);
    }

    private static void nonceHasItsLimits() {
        Chain x = new Chain(1);
        Check.due("nonce 0", x.transaction(0, 1, 1, 0), 0);
        Check.due("nonce 1000", x.transaction(0, 1, 1, 1000), 1);
        for (int nonce : NO_AMOUNTS) {
            Check.refusesArgument("nonce " + nonce, x, () -> x.transaction(0, 1, 1, nonce));
            Check.refusesArgument("amount and nonce " + nonce, x, () -> x.transaction(0, 1, nonce, nonce));
        }
        Check.due("the next", x.transaction(0, 1, 0, 1000), 2);
    }

    private static void fortyTransactions() {
        Chain x = Scenes.withTransactions(39);
        Check.due("the 40th", x.transaction(0, 1, 1, 0), 39);
        Check.refusesState("the 41st", x, () -> x.transaction(0, 1, 1, 0));
        Check.refusesState("the 41st, of the least numbers", x, () -> x.transaction(0, 0, 0, 0));
        Check.refusesState("the 41st, of the greatest", x, () -> x.transaction(3, 3, 1000, 1000));
        Check.due("transactions", x.about(2), 40);
    }

    private static void aWrongTransactionWhenThereAreForty() {
        Chain x = Scenes.withTransactions(40);
        for (int k = 0; k < 4; k++) {
            int account = NO_NODES[k];
            int amount = NO_AMOUNTS[k];
            Check.refusesArgument("from", x, () -> x.transaction(account, 1, 1, 0));
            Check.refusesArgument("to", x, () -> x.transaction(0, account, 1, 0));
            Check.refusesArgument("amount", x, () -> x.transaction(0, 1, amount, 0));
            Check.refusesArgument("nonce", x, () -> x.transaction(0, 1, 1, amount));
        }
    }

    private static void promise3() {
        Check.sentence("Transaction t comes to the end of node i's pool", CallEdgesTest::aPoolKeepsItsOrder);
        Check.sentence("if it is not in it: true; false if it is", CallEdgesTest::aPoolTakesEachOnce);
        Check.sentence("there is no such node or transaction", CallEdgesTest::submitToNoNode);
        Check.sentence("there is no such node or transaction", CallEdgesTest::submitNoTransaction);
        Check.sentence("IllegalStateException: the node is down.", CallEdgesTest::submitToOneThatIsDown);
        Check.sentence("IllegalArgumentException comes before IllegalStateException.",
                CallEdgesTest::submitWhatIsNotToOneThatIsDown);
    }

    private static void aPoolKeepsItsOrder() {
        Chain x = Scenes.withTransactions(3);
        x.submit(0, 2);
        x.submit(0, 0);
        x.submit(0, 1);
        Check.holds("the first again is refused", !x.submit(0, 2));
        x.begin();
        Play.runUntilBlock(x, 4);
        int[] due = {NONE, 2, 0, 1, NONE};
        for (int b = 1; b < due.length; b++) {
            Check.due("transaction of block " + b, x.block(b, 2), due[b]);
        }
    }

    private static void aPoolTakesEachOnce() {
        Chain x = Scenes.withTransactions(40);
        for (int t = 39; t >= 0; t--) {
            Check.holds("transaction " + t + " for the first time", x.submit(2, t));
        }
        Check.due("an empty pool stays empty", x.node(1, 10), 0);
        for (int t = 0; t < 40; t++) {
            Check.holds("transaction " + t + " again", !x.submit(2, t));
        }
        Check.due("all forty are in it", x.node(2, 10), 40);
        Check.holds("another node's pool is its own", x.submit(3, 39));
        Check.due("it has one", x.node(3, 10), 1);
        Chain y = new Chain(1);
        y.submit(0, y.transaction(0, 1, 5, 0));
        y.begin();
        Play.runUntilBlock(y, 5);
        Play.deliverAll(y, 0);
        Check.due("it is carried out", y.account(0, 1, 0), 105);
        Check.holds("and in the pool still", !y.submit(0, 0));
    }

    private static void submitToNoNode() {
        Chain x = Scenes.withTransactions(1);
        for (int i : NO_NODES) {
            Check.refusesArgument("submit to node " + i, x, () -> x.submit(i, 0));
        }
        Check.holds("submit to node 0", x.submit(0, 0));
        Check.holds("submit to node 3", x.submit(3, 0));
        Check.refusesArgument("what is in a pool, to no node", x, () -> x.submit(4, 0));
    }

    private static void submitNoTransaction() {
        for (int count : new int[] {0, 1, 2, 39, 40}) {
            Chain x = Scenes.withTransactions(count);
            for (int t : new int[] {-1, count, count + 1, 40, LEAST, MOST}) {
                Check.refusesArgument("transaction " + t + " of " + count, x, () -> x.submit(0, t));
            }
            Check.holds("the last there is", count == 0 || x.submit(0, count - 1));
            Check.holds("the first there is", count < 2 || x.submit(0, 0));
        }
    }

    private static void submitToOneThatIsDown() {
        for (int i = 0; i < 4; i++) {
            int down = i;
            Chain x = Scenes.withTransactions(1);
            x.submit(i, 0);
            x.crash(i);
            Check.refusesState("submit to one that is down", x, () -> x.submit(down, 0));
            Check.holds("another one is up", x.submit((i + 1) % 4, 0));
            x.restart(i);
            Check.due("the pool is empty", x.node(i, 10), 0);
            Check.holds("submit when it is up again", x.submit(i, 0));
        }
    }

    private static void submitWhatIsNotToOneThatIsDown() {
        Chain x = Scenes.withTransactions(1);
        for (int i = 0; i < 4; i++) {
            x.crash(i);
        }
        for (int t : new int[] {-1, 1, LEAST, MOST}) {
            Check.refusesArgument("transaction " + t, x, () -> x.submit(0, t));
        }
        for (int i : NO_NODES) {
            Check.refusesArgument("node " + i, x, () -> x.submit(i, 0));
            Check.refusesArgument("node and transaction", x, () -> x.submit(i, i));
        }
    }

    private static void promise4() {
        Check.sentence("IllegalStateException: it was called before", CallEdgesTest::beginOnce);
        Check.sentence("or node 0 is down", CallEdgesTest::beginWhileDown);
        Check.sentence("or not in view 1", CallEdgesTest::beginInAnotherView);
        Check.sentence("What throws changes nothing.", CallEdgesTest::beginThatWasRefusedIsNotCalled);
        Check.sentence("Node 0, the leader of view 1, proposes in it: true.", CallEdgesTest::beginNeedsNodeZeroAlone);
        Check.sentence("Node 0, the leader of view 1, proposes in it: true.", CallEdgesTest::beginOnAHighFarAbove);
    }

    private static void beginOnce() {
        Chain x = new Chain(8);
        Check.holds("begin", x.begin());
        Check.refusesState("begin again at once", x, () -> x.begin());
        x.crash(0);
        Check.refusesState("begin again, and down", x, () -> x.begin());
        x.restart(0);
        Check.due("node 0 is in view 1 as before", x.node(0, 1), 1);
        Check.refusesState("begin again behind a crash", x, () -> x.begin());
        Check.due("blocks", x.about(1), 2);
    }

    private static void beginWhileDown() {
        Chain x = new Chain(8);
        x.crash(0);
        Check.refusesState("begin", x, () -> x.begin());
        x.restart(0);
        Check.holds("begin when node 0 is up", x.begin());
    }

    private static void beginInAnotherView() {
        Chain x = Scenes.timedOut(8);
        Check.due("node 0 timed out in view 1, and is in it", x.node(0, 1), 1);
        Play.deliver(x, 0, 2);
        Check.due("two timeouts leave it there", x.node(0, 1), 1);
        x.deliver(0);
        Check.due("the third brings view 2", x.node(0, 1), 2);
        Check.refusesState("begin in view 2", x, () -> x.begin());
        Chain y = Scenes.timedOut(8);
        Play.deliver(y, 0, 2);
        Check.holds("begin in view 1, though VOTED is 1", y.begin());
        Chain z = new Chain(8);
        z.lie(0, 13, 0, NONE);
        z.deliver(0);
        Check.refusesState("begin in view 13", z, () -> z.begin());
    }

    private static void beginThatWasRefusedIsNotCalled() {
        Chain x = Scenes.timedOut(8);
        Play.deliver(x, 0, 3);
        Check.refusesState("begin in view 2", x, () -> x.begin());
        x.crash(0);
        Check.refusesState("begin while down", x, () -> x.begin());
        x.restart(0);
        Check.due("node 0 starts in view 1", x.node(0, 1), 1);
        Check.holds("begin is called for the first time", x.begin());
        Check.refusesState("and for the second", x, () -> x.begin());
    }

    private static void beginNeedsNodeZeroAlone() {
        Chain x = new Chain(8);
        for (int i = 1; i < 4; i++) {
            x.crash(i);
        }
        Check.holds("begin when all others are down", x.begin());
        for (int i = 0; i < 4; i++) {
            Check.due("a proposal is on the way to node " + i, x.message(i, 0, 0), 1);
        }
        Chain y = new Chain(8);
        for (int i = 1; i < 4; i++) {
            y.lie(i, 13, 0, NONE);
            y.deliver(i);
        }
        Check.holds("begin when all others are in view 13", y.begin());
        Check.due("the view of its block", y.block(4, 0), 1);
    }

    private static void beginOnAHighFarAbove() {
        Chain x = Scenes.highFarAboveTheView(8);
        Check.due("HIGH", x.node(0, 4), 5);
        Check.due("its view", x.block(5, 0), 15);
        Check.holds("begin", x.begin());
        Check.due("the view of its block", x.block(7, 0), 1);
        Check.due("its parent", x.block(7, 1), 5);
        Check.due("node 0's view", x.node(0, 1), 1);
        Check.due("its timer goes on", x.node(0, 2), 6);
    }

    private static void promise5() {
        Check.sentence("Answers its kind.", CallEdgesTest::deliverAnswersEachKind);
        Check.sentence("IllegalArgumentException: there is no such node.", CallEdgesTest::deliverToNoNode);
        Check.sentence("IllegalStateException: there is no message.", CallEdgesTest::deliverNothing);
        Check.sentence("A message that arrives at a node that is down is lost.",
                CallEdgesTest::deliverToOneThatIsDown);
    }

    private static void deliverAnswersEachKind() {
        Chain x = Scenes.askedForBlockOne();
        Check.due("an ask", x.deliver(0), 4);
        Check.due("a block", x.deliver(1), 5);
        Check.due("a proposal", x.deliver(2), 1);
        Check.due("a vote", x.deliver(0), 2);
        Play.ticks(x, 6);
        Check.due("a timeout", x.deliver(0), 3);
    }

    private static void deliverToNoNode() {
        Chain x = new Chain(3);
        for (int i : NO_NODES) {
            Check.refusesArgument("deliver to node " + i + ", nothing on the way", x, () -> x.deliver(i));
        }
        x.begin();
        for (int i : NO_NODES) {
            Check.refusesArgument("deliver to node " + i, x, () -> x.deliver(i));
        }
        Check.due("deliver to node 0", x.deliver(0), 1);
        Check.due("deliver to node 3", x.deliver(3), 1);
    }

    private static void deliverNothing() {
        Chain x = new Chain(3);
        x.begin();
        for (int i = 1; i < 4; i++) {
            int to = i;
            Check.due("the only one to node " + i, x.deliver(i), 1);
            Check.refusesState("one more", x, () -> x.deliver(to));
        }
        x.crash(2);
        Check.refusesState("nothing to one that is down", x, () -> x.deliver(2));
        Play.deliver(x, 0, 5);
        Check.due("the third vote has brought a proposal", x.deliver(0), 1);
    }

    private static void deliverToOneThatIsDown() {
        Chain x = Scenes.askedForBlockOne();
        x.crash(0);
        Check.due("a crash takes what is on the way", x.node(0, 11), 0);
        x.lie(0, 13, 0, NONE);
        x.lieVote(0, 1);
        x.lieVote(0, 1);
        Play.ticks(x, 6);
        Check.due("what was sent since", x.node(0, 11), 6);
        int[] kinds = {1, 2, 2, 3, 3, 3};
        for (int kind : kinds) {
            Check.due("its kind", x.deliver(0), kind);
        }
        Check.due("all is lost", x.node(0, 11), 0);
        x.restart(0);
        Check.due("it has not the block of the lie", x.block(3, 4), 8);
        Check.due("it has not changed its view", x.node(0, 1), 1);
        Chain y = Scenes.askedForBlockOne();
        y.disturb(0, 2);
        y.crash(1);
        y.deliver(0);
        Check.due("a block for one that is down", y.deliver(1), 5);
        y.restart(1);
        Check.due("it has it not", y.node(1, 9), 1);
        Chain z = Scenes.withBlockTwoProposed(3);
        z.crash(0);
        z.deliver(1);
        Check.due("a vote for one that is down", z.deliver(0), 2);
        Chain w = anAskForOneThatIsDown();
        Check.due("an ask for one that is down", w.deliver(0), 4);
        Check.due("is not answered", w.node(1, 11), 0);
    }

    /** Node 0 is down, and node 1 asks it for block 1. */
    private static Chain anAskForOneThatIsDown() {
        Chain x = new Chain(2);
        x.begin();
        Play.lose(x, 1);
        for (int i : new int[] {0, 2, 3}) {
            x.deliver(i);
        }
        Play.deliver(x, 0, 3);
        x.crash(0);
        x.deliver(1);
        return x;
    }
}
