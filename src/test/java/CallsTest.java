/** Promise by promise: what each call answers, the edges that the document names, and wrong inputs. */
public final class CallsTest {
    private static final int NONE = QuorumChain.NONE;
    private static final int[] NO_NODES = {-1, 4, Integer.MIN_VALUE, Integer.MAX_VALUE};

    private CallsTest() {
    }

    public static void main(String[] args) {
        promise1NewObject();
        promise2Transaction();
        promise3Submit();
        promise4Begin();
        promise4BeginIsRefused();
        promise5Deliver();
        promise6Disturb();
        promise6DisturbAFullRow();
        promise7Alter();
        promise7AlterIsRefused();
        promise8Lie();
        promise8LieIsRefused();
        promise9LieVote();
        promise10Tick();
        promise11Crash();
        promise12Restart();
        promise13Node();
        promise14Log();
        promise15Account();
        promise16Block();
        promise17Message();
        promise18Root();
        promise19About();
        Check.end();
    }

    private static void promise1NewObject() {
        int[] due = {1, 1, 6, 6, 0, 0, 0, 0, 1, 1, 0, 0};
        for (int seed : new int[] {0, 5, -7, Integer.MIN_VALUE, Integer.MAX_VALUE}) {
            Chain x = new Chain(seed);
            for (int i = 0; i < 4; i++) {
                for (int what = 0; what < due.length; what++) {
                    Check.due("new: node(" + i + ", " + what + ")", x.node(i, what), due[what]);
                }
            }
            Check.due("new: clock", x.about(0), 0);
            Check.due("new: blocks", x.about(1), 1);
            Check.due("new: transactions", x.about(2), 0);
            Check.same("new, seed " + seed, x.all(), Watch.all(new NaiveChain(seed)));
        }
    }

    private static void promise2Transaction() {
        Chain x = new Chain(1);
        int[][] wrong = {{-1, 0, 1, 0}, {4, 0, 1, 0}, {0, -1, 1, 0}, {0, 4, 1, 0}, {0, 1, -1, 0},
            {0, 1, 1001, 0}, {0, 1, 1, -1}, {0, 1, 1, 1001}};
        for (int[] w : wrong) {
            Check.refusesArgument("a wrong transaction", x, () -> x.transaction(w[0], w[1], w[2], w[3]));
        }
        Check.due("the first transaction", x.transaction(0, 3, 0, 0), 0);
        Check.due("the second one", x.transaction(3, 0, 1000, 1000), 1);
        Check.due("one to itself", x.transaction(2, 2, 5, 0), 2);
        for (int t = 3; t < 40; t++) {
            Check.due("transaction", x.transaction(1, 2, t, 0), t);
        }
        Check.refusesState("the 41st transaction", x, () -> x.transaction(0, 1, 1, 0));
        Check.refusesArgument("a wrong 41st one", x, () -> x.transaction(0, 4, 1, 0));
        Check.due("transactions", x.about(2), 40);
    }

    private static void promise3Submit() {
        Chain x = new Chain(1);
        Check.refusesArgument("submit without transactions", x, () -> x.submit(0, 0));
        x.transaction(0, 1, 1, 0);
        x.transaction(0, 1, 1, 1);
        Check.holds("submit(2, 1)", x.submit(2, 1));
        Check.holds("submit(2, 0)", x.submit(2, 0));
        Check.holds("not submit(2, 1) again", !x.submit(2, 1));
        Check.due("node 2's pool", x.node(2, 10), 2);
        Check.due("node 1's pool", x.node(1, 10), 0);
        for (int i : NO_NODES) {
            Check.refusesArgument("submit to no node", x, () -> x.submit(i, 0));
        }
        Check.refusesArgument("submit no transaction", x, () -> x.submit(0, 2));
        Check.refusesArgument("submit NONE", x, () -> x.submit(0, NONE));
        x.crash(2);
        Check.refusesState("submit to a node that is down", x, () -> x.submit(2, 1));
        Check.refusesArgument("submit no transaction there", x, () -> x.submit(2, 2));
        x.restart(2);
        Check.due("the pool after a crash", x.node(2, 10), 0);
        Check.holds("submit(2, 1) after a crash", x.submit(2, 1));
        Check.due("transactions that all fit", fillPool(), 40);
    }

    private static int fillPool() {
        Chain x = new Chain(1);
        for (int t = 0; t < 40; t++) {
            x.submit(3, x.transaction(0, 0, 0, 0));
        }
        return x.node(3, 10);
    }

    private static void promise4Begin() {
        Chain x = new Chain(8);
        x.transaction(0, 1, 1, 0);
        x.transaction(0, 1, 2, 0);
        x.submit(0, 1);
        x.submit(0, 0);
        Play.ticks(x, 2);
        Check.holds("begin", x.begin());
        int[] due = {1, 0, 1, 0, 1};
        for (int what = 0; what < due.length; what++) {
            Check.due("block(1, " + what + ")", x.block(1, what), due[what]);
        }
        int[] sent = {1, 0, 1, 0, 0};
        for (int i = 0; i < 4; i++) {
            Check.due("one message to node " + i, x.node(i, 11), 1);
            for (int what = 0; what < sent.length; what++) {
                Check.due("the proposal, " + what, x.message(i, 0, what), sent[what]);
            }
        }
        Check.due("one key for all four", x.node(0, 7), 1);
        Check.due("the view", x.node(0, 1), 1);
        Check.due("the timer goes on", x.node(0, 2), 4);
        Check.due("no vote yet", x.node(0, 5), 0);
        Check.due("its pool keeps both", x.node(0, 10), 2);
        Check.refusesState("begin twice", x, () -> x.begin());
    }

    private static void promise4BeginIsRefused() {
        Chain x = new Chain(8);
        x.crash(0);
        Check.refusesState("begin while node 0 is down", x, () -> x.begin());
        x.restart(0);
        Check.holds("begin after a refused one", x.begin());
        x.crash(0);
        x.restart(0);
        Check.refusesState("begin again after a crash", x, () -> x.begin());
        Chain y = new Chain(8);
        Play.ticks(y, 6);
        Play.deliver(y, 0, 3);
        Check.due("node 0 is in view 2", y.node(0, 1), 2);
        Check.refusesState("begin in view 2", y, () -> y.begin());
    }

    private static void promise5Deliver() {
        Chain x = new Chain(3);
        for (int i : NO_NODES) {
            Check.refusesArgument("deliver to no node", x, () -> x.deliver(i));
        }
        Check.refusesState("deliver nothing", x, () -> x.deliver(0));
        x.begin();
        Check.due("a proposal", x.deliver(1), 1);
        Check.due("it is gone", x.node(1, 11), 0);
        Check.refusesState("deliver it again", x, () -> x.deliver(1));
        x.disturb(0, 0);
        Check.due("a vote", x.deliver(0), 2);
        Play.ticks(x, 6);
        Check.due("a timeout", x.deliver(1), 3);
        x.crash(2);
        x.lieVote(2, 1);
        Check.due("to a node that is down", x.deliver(2), 2);
        Check.due("it is lost", x.node(2, 11), 0);
        x.restart(2);
        Check.due("and was not seen", x.node(2, 9), 1);
    }

    private static Chain threeVotesToNodeOne() {
        Chain x = new Chain(4);
        x.begin();
        Play.loseAll(x);
        for (int k = 0; k < 3; k++) {
            x.lieVote(1, 1);
        }
        return x;
    }

    private static void keysOfMessages(String what, Chain x, int i, int... due) {
        Check.due(what + ": messages", x.node(i, 11), due.length);
        for (int k = 0; k < due.length; k++) {
            Check.due(what + ": key of message " + k, x.message(i, k, 4), due[k]);
        }
    }

    private static void promise6Disturb() {
        Chain x = threeVotesToNodeOne();
        keysOfMessages("three votes", x, 1, 0, 1, 2);
        Check.holds("disturb(1, 1)", x.disturb(1, 1));
        keysOfMessages("behind all others", x, 1, 1, 2, 0);
        Check.holds("disturb(1, 2)", x.disturb(1, 2));
        keysOfMessages("a copy", x, 1, 1, 2, 0, 1);
        Check.holds("disturb(1, 0)", x.disturb(1, 0));
        keysOfMessages("lost", x, 1, 2, 0, 1);
        for (int i : NO_NODES) {
            Check.refusesArgument("disturb no node", x, () -> x.disturb(i, 0));
        }
        for (int how : new int[] {-1, 3, Integer.MIN_VALUE, Integer.MAX_VALUE}) {
            Check.refusesArgument("disturb so", x, () -> x.disturb(1, how));
            Check.refusesArgument("disturb nothing so", x, () -> x.disturb(0, how));
        }
        for (int how = 0; how <= 2; how++) {
            int h = how;
            Check.refusesState("disturb nothing", x, () -> x.disturb(0, h));
        }
        x.disturb(1, 0);
        x.disturb(1, 0);
        x.disturb(1, 1);
        keysOfMessages("one behind itself", x, 1, 1);
        x.crash(2);
        x.lieVote(2, 1);
        Check.holds("disturb a node that is down", x.disturb(2, 2));
        keysOfMessages("copied there", x, 2, 3, 3);
    }

    private static void promise6DisturbAFullRow() {
        Chain x = threeVotesToNodeOne();
        for (int k = 3; k < 16; k++) {
            x.disturb(1, 2);
        }
        x.lieVote(1, 1);
        Check.due("the 17th is lost", x.node(1, 11), 16);
        Check.due("though its key is used", x.node(3, 7), 4);
        Check.refusesState("a copy with 16 on the way", x, () -> x.disturb(1, 2));
        Check.holds("behind 15 others", x.disturb(1, 1));
        Check.due("the first now", x.message(1, 0, 4), 1);
        Check.due("the last now", x.message(1, 15, 4), 0);
        Check.holds("lost of 16", x.disturb(1, 0));
        Check.due("there are 15", x.node(1, 11), 15);
        x.lieVote(1, 1);
        Check.due("the last one is new", x.message(1, 15, 4), 4);
    }

    private static void promise7Alter() {
        for (int which = 0; which <= 10; which++) {
            for (long mask : new long[] {1, -1, Long.MIN_VALUE}) {
                Chain x = new Chain(which);
                x.begin();
                Check.holds("alter", x.alter(1, which, mask));
                Check.due("the kind of an altered one", x.deliver(1), 1);
                Check.due("an altered proposal does nothing", x.node(1, 9), 1);
                x.deliver(2);
                Check.due("the one to node 2 is as it was", x.node(2, 9), 2);
                x.alter(3, which, mask);
                x.alter(3, which, mask);
                x.deliver(3);
                Check.due("altered back", x.node(3, 9), 2);
            }
        }
        Chain x = new Chain(2);
        x.begin();
        x.alter(1, 4, 0);
        x.disturb(1, 2);
        x.disturb(1, 1);
        x.alter(1, 4, 8);
        x.deliver(1);
        Check.due("the altered copy", x.node(1, 9), 1);
        x.deliver(1);
        Check.due("what it was copied from", x.node(1, 9), 2);
        x.alter(2, 4, 8);
        x.disturb(2, 2);
        Play.deliver(x, 2, 2);
        Check.due("a copy of an altered one", x.node(2, 9), 1);
    }

    private static void promise7AlterIsRefused() {
        Chain x = new Chain(2);
        x.begin();
        for (int i : NO_NODES) {
            Check.refusesArgument("alter no node's", x, () -> x.alter(i, 0, 1));
        }
        for (int which : new int[] {-1, 11, Integer.MIN_VALUE, Integer.MAX_VALUE}) {
            Check.refusesArgument("alter no such long", x, () -> x.alter(0, which, 1));
        }
        Play.lose(x, 0);
        Check.refusesState("alter nothing", x, () -> x.alter(0, 0, 1));
        Check.refusesArgument("alter no long of nothing", x, () -> x.alter(0, 11, 1));
        Chain y = Scenes.askedForBlockOne();
        Check.due("an ask", y.message(0, 0, 0), 4);
        Check.refusesState("alter an ask", y, () -> y.alter(0, 0, 1));
        y.deliver(0);
        Check.due("a block", y.message(1, 0, 0), 5);
        Check.refusesState("alter a block", y, () -> y.alter(1, 10, 1));
    }

    private static void promise8Lie() {
        Chain x = new Chain(6);
        x.transaction(0, 1, 5, 0);
        int made = 1;
        for (int v : new int[] {13, 14, 15, 16, 29, 30, 31, 32, 45, 46, 47, 48}) {
            int i = made % 4;
            int t = made % 2 - 1;
            Check.due("lie with view " + v, x.lie(i, v, 0, t), made);
            int[] due = {v, 0, t, 0, 8};
            for (int what = 0; what < due.length; what++) {
                Check.due("the block of the lie, " + what, x.block(made, what), due[what]);
            }
            int[] sent = {1, 3, made, 0, made - 1};
            for (int what = 0; what < sent.length; what++) {
                Check.due("its proposal, " + what, x.message(i, (made - 1) / 4, what), sent[what]);
            }
            made++;
        }
        for (int i = 0; i < 4; i++) {
            Check.due("messages to node " + i, x.node(i, 11), 3);
        }
        x.deliver(2);
        Check.due("node 2 believes it", x.node(2, 1), 14);
        Check.due("and votes", x.node(2, 5), 14);
        Check.due("for it", x.message(3, 3, 0), 2);
        Check.due("keys of node 3", x.node(3, 7), 12);
        Check.due("blocks that node 3 has", x.node(3, 9), 13);
    }

    private static void promise8LieIsRefused() {
        Chain x = Scenes.withBlockTwoProposed(6);
        x.transaction(0, 1, 5, 0);
        for (int i : NO_NODES) {
            Check.refusesArgument("lie to no node", x, () -> x.lie(i, 13, 0, NONE));
            Check.refusesArgument("lie with no parent", x, () -> x.lie(0, 13, i == 4 ? 3 : i, NONE));
        }
        for (int v : new int[] {0, -1, -3, 1, 12, 17, 28, 33, 44, 49, 60, 61, 64, 77, Integer.MIN_VALUE,
            Integer.MAX_VALUE}) {
            Check.refusesArgument("lie with view " + v, x, () -> x.lie(0, v, 0, NONE));
        }
        Check.refusesArgument("lie with no transaction 1", x, () -> x.lie(0, 13, 0, 1));
        Check.refusesArgument("lie with transaction -2", x, () -> x.lie(0, 13, 0, -2));
        Check.refusesState("lie on what it has not", x, () -> x.lie(0, 13, 2, NONE));
        x.deliver(3);
        Check.due("node 3 has block 2", x.block(2, 4) & 8, 8);
        Check.refusesState("lie on what is not certified", x, () -> x.lie(0, 13, 2, NONE));
        Check.refusesArgument("and with a wrong view", x, () -> x.lie(0, 12, 2, NONE));
        Check.due("lie on what is", x.lie(0, 13, 1, 0), 3);
        x.crash(3);
        Check.refusesState("lie while node 3 is down", x, () -> x.lie(0, 13, 1, 0));
        x.restart(3);
        Check.due("lie when it is up again", x.lie(0, 13, 1, 0), 4);
        for (int k = x.node(3, 7); k < 32; k++) {
            x.lieVote(1, 1);
        }
        Check.refusesState("lie without a key", x, () -> x.lie(0, 13, 1, 0));
        Chain z = new Chain(6);
        z.begin();
        Play.lose(z, 3);
        for (int i = 0; i < 3; i++) {
            z.deliver(i);
        }
        Play.deliver(z, 0, 3);
        Check.due("block 1 is certified, and not there for node 3", z.block(1, 3) * 16 + z.block(1, 4), 23);
        Check.refusesState("lie on it", z, () -> z.lie(0, 13, 1, NONE));
        Chain y = new Chain(6);
        Check.due("lie to a node that is down", y.crash(1) ? y.lie(1, 13, 0, NONE) : 0, 1);
        Check.due("it is on the way", y.message(1, 0, 0), 1);
    }

    private static void promise9LieVote() {
        Chain x = new Chain(6);
        Check.refusesArgument("lieVote for no block", x, () -> x.lieVote(0, 1));
        Check.refusesState("lieVote for block 0", x, () -> x.lieVote(0, 0));
        x.begin();
        Check.holds("lieVote", x.lieVote(2, 1));
        int[] sent = {2, 3, 1, 0, 0};
        for (int what = 0; what < sent.length; what++) {
            Check.due("the vote, " + what, x.message(2, 1, what), sent[what]);
        }
        Check.due("node 3 has not voted", x.node(3, 5), 0);
        for (int i : NO_NODES) {
            Check.refusesArgument("lieVote to no node", x, () -> x.lieVote(i, 1));
        }
        Check.refusesArgument("lieVote for block 2", x, () -> x.lieVote(0, 2));
        Check.refusesArgument("lieVote for NONE", x, () -> x.lieVote(0, NONE));
        x.crash(3);
        Check.refusesState("lieVote while node 3 is down", x, () -> x.lieVote(0, 1));
        x.restart(3);
        for (int k = 1; k < 32; k++) {
            Check.holds("lieVote with key " + k, x.lieVote(0, 1));
        }
        Check.due("keys used", x.node(3, 7), 32);
        Check.refusesState("lieVote without a key", x, () -> x.lieVote(1, 1));
        Check.refusesArgument("and for no block", x, () -> x.lieVote(1, 2));
    }

    private static void promise10Tick() {
        Chain x = new Chain(6);
        x.crash(2);
        for (int k = 1; k <= 5; k++) {
            Check.due("tick", x.tick(), k);
            Check.due("the timer", x.node(0, 2), 6 - k);
        }
        Check.due("nothing is sent", x.node(0, 11), 0);
        Check.due("tick", x.tick(), 6);
        Check.due("the clock", x.about(0), 6);
        int[] senders = {0, 1, 3};
        for (int i = 0; i < 4; i++) {
            Check.due("messages to node " + i, x.node(i, 11), 3);
            for (int k = 0; k < 3; k++) {
                int[] due = {3, senders[k], 0, 1, 0};
                for (int what = 0; what < due.length; what++) {
                    Check.due("the timeout, " + what, x.message(i, k, what), due[what]);
                }
            }
        }
        Check.due("VOTED", x.node(1, 5), 1);
        Check.due("the view", x.node(1, 1), 1);
        Check.due("VOTED of one that is down", x.node(2, 5), 0);
        x.restart(2);
        Check.due("its timer", x.node(2, 2), 6);
    }

    private static void promise11Crash() {
        Chain x = Scenes.withBlockTwoProposed(6);
        x.transaction(0, 1, 5, 0);
        x.submit(1, 0);
        x.deliver(1);
        x.lieVote(1, 1);
        for (int i : NO_NODES) {
            Check.refusesArgument("crash no node", x, () -> x.crash(i));
        }
        Check.holds("crash(1)", x.crash(1));
        int[] due = {0, 0, 0, 0, 0, 2, 0, 2, 1, 3, 0, 0};
        for (int what = 0; what < due.length; what++) {
            Check.due("down: node(1, " + what + ")", x.node(1, what), due[what]);
        }
        Check.due("what it has", x.block(2, 4), 3);
        Check.due("what it sent stays", x.node(0, 11), 2);
        Check.refusesState("crash(1) twice", x, () -> x.crash(1));
        x.lieVote(1, 1);
        Check.due("what is sent to it later", x.node(1, 11), 1);
        x.restart(1);
        Check.due("is there when it starts", x.node(1, 11), 1);
    }

    private static void promise12Restart() {
        Chain x = Scenes.withBlockTwoProposed(6);
        x.deliver(1);
        for (int i : NO_NODES) {
            Check.refusesArgument("restart no node", x, () -> x.restart(i));
        }
        Check.refusesState("restart a node that is up", x, () -> x.restart(1));
        Play.ticks(x, 6);
        x.crash(1);
        Check.holds("restart(1)", x.restart(1));
        int[] due = {1, 2, 6, 6, 1, 2, 0, 3, 1, 3, 0, 0};
        for (int what = 0; what < due.length; what++) {
            Check.due("up again: node(1, " + what + ")", x.node(1, what), due[what]);
        }
        Chain y = new Chain(6);
        y.crash(3);
        y.restart(3);
        Check.same("a new node that crashed and started", y.all(), new Chain(6).all());
    }

    private static void promise13Node() {
        Chain x = Scenes.withBlockTwoProposed(6);
        x.transaction(0, 1, 5, 0);
        x.submit(0, 0);
        x.tick();
        int[] due = {1, 2, 5, 6, 1, 1, 0, 3, 1, 3, 1, 1};
        for (int what = 0; what < due.length; what++) {
            Check.due("node(0, " + what + ")", x.node(0, what), due[what]);
        }
        for (int i : NO_NODES) {
            Check.due("no node", x.node(i, 0), NONE);
        }
        for (int what : new int[] {-1, 12, Integer.MIN_VALUE, Integer.MAX_VALUE}) {
            Check.due("no such what", x.node(0, what), NONE);
        }
        x.crash(0);
        Check.due("no such what, down", x.node(0, 12), NONE);
    }

    private static void promise14Log() {
        Chain x = new Chain(6);
        x.begin();
        Play.runUntilBlock(x, 4);
        Play.deliverAll(x, 2);
        Check.due("log(2, 0)", x.log(2, 0), 0);
        Check.due("log(2, 1)", x.log(2, 1), 1);
        Check.due("log(2, 2)", x.log(2, 2), NONE);
        Check.due("log(2, -1)", x.log(2, -1), NONE);
        Check.due("log(2, 100)", x.log(2, 100), NONE);
        Check.due("log(2, greatest)", x.log(2, Integer.MAX_VALUE), NONE);
        for (int i : NO_NODES) {
            Check.due("no node's log", x.log(i, 0), NONE);
        }
        x.crash(2);
        Check.due("the log outlasts crashes", x.log(2, 1), 1);
    }

    private static void promise15Account() {
        Chain x = new Chain(6);
        x.submit(0, x.transaction(3, 1, 40, 0));
        x.begin();
        Play.runUntilBlock(x, 4);
        Play.deliverAll(x, 2);
        int[] money = {100, 140, 100, 60};
        for (int a = 0; a < 4; a++) {
            Check.due("money of account " + a, x.account(2, a, 0), money[a]);
            Check.due("nonce of account " + a, x.account(2, a, 1), a == 3 ? 1 : 0);
            Check.due("at a node that has not committed", x.account(0, a, 0), 100);
        }
        for (int i : NO_NODES) {
            Check.due("no node's account", x.account(i, 0, 0), NONE);
            Check.due("no account", x.account(0, i, 0), NONE);
        }
        Check.due("what -1", x.account(0, 0, -1), NONE);
        Check.due("what 2", x.account(0, 0, 2), NONE);
        x.crash(2);
        Check.due("accounts outlast crashes", x.account(2, 3, 0), 60);
    }

    private static void promise16Block() {
        Chain x = Scenes.withBlockTwoProposed(6);
        int[] zero = {0, NONE, NONE, 1, 15};
        int[] one = {1, 0, NONE, 1, 15};
        int[] two = {2, 1, NONE, 0, 1};
        for (int what = 0; what < 5; what++) {
            Check.due("block(0, " + what + ")", x.block(0, what), zero[what]);
            Check.due("block(1, " + what + ")", x.block(1, what), one[what]);
            Check.due("block(2, " + what + ")", x.block(2, what), two[what]);
        }
        x.deliver(3);
        Check.due("who has block 2", x.block(2, 4), 9);
        for (int what : new int[] {-1, 5, Integer.MIN_VALUE, Integer.MAX_VALUE}) {
            Check.due("no such what", x.block(1, what), NONE);
        }
        for (int b : new int[] {-1, 3, 99, 100, 101, Integer.MIN_VALUE, Integer.MAX_VALUE}) {
            Check.due("no block", x.block(b, 0), NONE);
            Check.due("no block, for nodes", x.block(b, 4), NONE);
        }
    }

    private static void promise17Message() {
        Chain x = Scenes.withBlockTwoProposed(6);
        x.deliver(2);
        Play.ticks(x, 6);
        int[][] due = {{1, 0, 2, 0, 2}, {2, 2, 2, 0, 1}, {3, 0, 1, 2, 3}, {3, 1, 0, 1, 1}, {3, 2, 1, 2, 2},
            {3, 3, 0, 1, 1}};
        Check.due("messages", x.node(0, 11), due.length);
        for (int k = 0; k < due.length; k++) {
            for (int what = 0; what < 5; what++) {
                Check.due("message(0, " + k + ", " + what + ")", x.message(0, k, what), due[k][what]);
            }
            Check.due("what -1", x.message(0, k, -1), NONE);
            Check.due("what 5", x.message(0, k, 5), NONE);
        }
        for (int k : new int[] {-1, 6, 15, 16, Integer.MIN_VALUE, Integer.MAX_VALUE}) {
            Check.due("no message", x.message(0, k, 0), NONE);
        }
        for (int i : NO_NODES) {
            Check.due("no node's message", x.message(i, 0, 0), NONE);
        }
        Chain y = Scenes.askedForBlockOne();
        int[] ask = {4, 1, 1, 0, NONE};
        int[] block = {5, 0, 1, 0, NONE};
        for (int what = 0; what < 5; what++) {
            Check.due("the ask, " + what, y.message(0, 0, what), ask[what]);
        }
        y.deliver(0);
        for (int what = 0; what < 5; what++) {
            Check.due("the block, " + what, y.message(1, 0, what), block[what]);
        }
    }

    private static void promise18Root() {
        Check.due("seed 5, node 0", new Chain(5).root(0), -5117958693642979930L);
        for (int seed : new int[] {-1, 0, 1, Integer.MIN_VALUE, Integer.MAX_VALUE}) {
            Chain x = new Chain(seed);
            NaiveChain y = new NaiveChain(seed);
            for (int i = 0; i < 4; i++) {
                Check.due("root(" + i + ")", x.root(i), y.root(i));
            }
            for (int i : NO_NODES) {
                Check.due("no node's root", x.root(i), 0);
            }
            x.crash(1);
            Check.due("the root of one that is down", x.root(1), y.root(1));
        }
    }

    private static void promise19About() {
        Chain x = Scenes.withBlockTwoProposed(6);
        x.transaction(0, 1, 5, 0);
        Play.ticks(x, 3);
        Check.due("the clock", x.about(0), 3);
        Check.due("blocks", x.about(1), 3);
        Check.due("transactions", x.about(2), 1);
        for (int what : new int[] {-1, 3, Integer.MIN_VALUE, Integer.MAX_VALUE}) {
            Check.due("about nothing", x.about(what), NONE);
        }
    }
}
