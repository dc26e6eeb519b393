/**
 * The document's terms, sentence by sentence: keys, blocks, nodes, messages, ticks and crashes, on both sides of each
 * limit (ProtocolEdgesTest has what the messages do when they arrive). A line that begins with "Not reached" names a
 * sentence whose edge no run of 512 calls comes to.
 */
public final class TermEdgesTest {
    private static final int NONE = QuorumChain.NONE;

    private TermEdgesTest() {
    }

    public static void main(String[] args) {
        keys();
        blocks();
        nodesAtFirst();
        sixteenMessages();
        thirtyTwoKeys();
        enterAndPropose();
        ticks();
        crashesAndStarts();
        Check.end();
    }

    private static void keys() {
        Check.sentence("node i has KEYS 0 .. 31", TermEdgesTest::eachKeyOnce);
        Check.sentence("a node uses its next key k (0, 1, .., each once)", TermEdgesTest::keysBehindACrash);
        Check.sentence("(as the bits of k say, left or right)", TermEdgesTest::eachKeyIsGoodAndCanBeSpoiled);
        Check.sentence("each number of a higher row is FOLD(left, right) of two neighbours",
                TermEdgesTest::rootsByHand);
    }

    private static void eachKeyOnce() {
        Chain x = new Chain(41);
        x.begin();
        for (int k = 0; k < 32; k++) {
            Check.due("keys used before", x.node(3, 7), k);
            x.lieVote(k % 4, 1);
            if (k < 8) {
                Check.due("the key", x.message(k % 4, 1 + k / 4, 4), k);
            }
        }
        Check.due("keys used", x.node(3, 7), 32);
        Check.refusesState("a 33rd", x, () -> x.lieVote(0, 1));
        Check.due("the other nodes' keys", x.node(1, 7), 0);
    }

    private static void keysBehindACrash() {
        Chain x = new Chain(41);
        x.begin();
        Play.lose(x, 0);
        for (int k = 0; k < 5; k++) {
            x.lieVote(0, 1);
            Check.due("the key", x.message(0, k, 4), k);
            x.crash(3);
            Check.due("keys used while it is down", x.node(3, 7), k + 1);
            x.restart(3);
            Check.due("keys used when it starts", x.node(3, 7), k + 1);
        }
    }

    private static void eachKeyIsGoodAndCanBeSpoiled() {
        Chain x = new Chain(42);
        for (int k = 0; k < 32; k++) {
            int b = x.lie(1, 13, 0, NONE);
            x.disturb(1, 2);
            x.alter(1, k % 11, 1L << k);
            Check.due("the key", x.message(1, 0, 4), k);
            x.deliver(1);
            Check.due("a spoiled signature of key " + k, x.block(b, 4), 8);
            x.deliver(1);
            Check.due("a signature of key " + k, x.block(b, 4), 10);
        }
    }

    private static void rootsByHand() {
        for (int seed : new int[] {0, 7, -7, Integer.MIN_VALUE, Integer.MAX_VALUE}) {
            Chain x = new Chain(seed);
            for (int i = 0; i < 4; i++) {
                Check.due("root(" + i + ") of seed " + seed, x.root(i), new NaiveChain(seed).root(i));
            }
        }
    }

    private static void blocks() {
        // Not reached: "(at most 100 in all)". Each block but block 0 and begin's takes one of node 3's keys (a
        // lie), or keys of three nodes (votes or timeouts): at most 2 + 32 + 96 / 3 = 66.
        Check.sentence("Block 0 has view 0, no parent, and is CERTIFIED.", TermEdgesTest::blockZero);
        Check.sentence("A block is certified once a leader has three votes for it.", TermEdgesTest::threeVotes);
        Check.sentence("The LEADER of view v (1, 2, ..) is node (v - 1) / 4 % 4.", TermEdgesTest::leadersPropose);
        Check.sentence("The LEADER of view v (1, 2, ..) is node (v - 1) / 4 % 4.", TermEdgesTest::leadersGetVotes);
    }

    private static void blockZero() {
        Chain x = new Chain(41);
        int[] due = {0, NONE, NONE, 1, 15};
        for (int what = 0; what < due.length; what++) {
            Check.due("block(0, " + what + ")", x.block(0, what), due[what]);
        }
    }

    private static void threeVotes() {
        Chain x = new Chain(41);
        x.begin();
        for (int i = 0; i < 4; i++) {
            x.deliver(i);
        }
        for (int votes = 1; votes <= 4; votes++) {
            x.deliver(0);
            Check.due("certified by " + votes, x.block(1, 3), votes >= 3 ? 1 : 0);
            Check.due("blocks with " + votes, x.about(1), votes >= 3 ? 3 : 2);
        }
    }

    private static void leadersPropose() {
        Chain x = new Chain(43);
        x.begin();
        int[] leaders = {NONE, 0, 0, 0, 0, 1, 1, 1, 1, 2, 2, 2, 2, 3, 3, 3, 3, 0};
        for (int b = 1; b <= 17; b++) {
            Play.runUntilBlock(x, b);
            Check.due("view of block " + b, x.block(b, 0), b);
            Check.due("who alone has it when it is new", x.block(b, 4), 1 << leaders[b]);
        }
    }

    private static void leadersGetVotes() {
        int[] views = {13, 14, 15, 16, 29, 32, 45, 48};
        int[] next = {3, 3, 3, 0, 3, 0, 3, 0};
        for (int k = 0; k < views.length; k++) {
            Chain x = new Chain(43);
            x.lie(1, views[k], 0, NONE);
            x.deliver(1);
            for (int i = 0; i < 4; i++) {
                Check.due("votes in view " + views[k] + " to node " + i, x.node(i, 11), i == next[k] ? 1 : 0);
            }
        }
        Chain y = new Chain(43);
        y.begin();
        Play.runUntilBlock(y, 4);
        Play.lose(y, 0);
        Play.lose(y, 1);
        Play.deliverAll(y, 2);
        Check.due("the vote in view 4 goes to node 1", y.node(1, 11), 1);
        Check.due("that in view 3 went to node 0", y.node(0, 11), 0);
    }

    private static void nodesAtFirst() {
        Check.sentence("has a VIEW (1 at first), a TIMER and a SPAN (6 both), HIGH (a certified block, 0 at first)",
                () -> nodeAtFirst(new int[] {1, 2, 3, 4, 10}, new int[] {1, 6, 6, 0, 0}));
        Check.sentence("VOTED (the last view in which it voted or timed out, 0 at first)",
                () -> nodeAtFirst(new int[] {5}, new int[] {0}));
        Check.sentence("LOCKED (a block, 0 at first)", () -> nodeAtFirst(new int[] {6, 7, 9}, new int[] {0, 0, 1}));
        Check.sentence("its LOG of committed blocks (0 at first, first in it)", TermEdgesTest::logAtFirst);
        Check.sentence("ACCOUNTS 0 .. 3 have 100 and NONCE 0 at first", TermEdgesTest::accountsAtFirst);
    }

    private static void nodeAtFirst(int[] whats, int[] due) {
        Chain x = new Chain(44);
        for (int i = 0; i < 4; i++) {
            for (int k = 0; k < whats.length; k++) {
                Check.due("node(" + i + ", " + whats[k] + ")", x.node(i, whats[k]), due[k]);
            }
        }
    }

    private static void logAtFirst() {
        Chain x = new Chain(44);
        for (int i = 0; i < 4; i++) {
            Check.due("its length", x.node(i, 8), 1);
            Check.due("its block", x.log(i, 0), 0);
            Check.due("no second", x.log(i, 1), NONE);
        }
    }

    private static void accountsAtFirst() {
        Chain x = new Chain(44);
        for (int i = 0; i < 4; i++) {
            for (int a = 0; a < 4; a++) {
                Check.due("money", x.account(i, a, 0), 100);
                Check.due("nonce", x.account(i, a, 1), 0);
            }
        }
    }

    private static void sixteenMessages() {
        Check.sentence("one that is sent when there are 16 is lost", TermEdgesTest::proposalsToAFullNode);
        Check.sentence("one that is sent when there are 16 is lost", TermEdgesTest::votesToAFullNode);
        Check.sentence("one that is sent when there are 16 is lost", TermEdgesTest::timeoutsToAFullNode);
        Check.sentence("one that is sent when there are 16 is lost", TermEdgesTest::asksToAFullNode);
        Check.sentence("one that is sent when there are 16 is lost", TermEdgesTest::blocksToAFullNode);
        Check.sentence("one that is sent when there are 16 is lost", TermEdgesTest::liesToAFullNode);
        Check.sentence("MESSAGES to a node (also to itself), at most 16 on the way to each, in order",
                TermEdgesTest::whatArrivesMakesRoom);
    }

    private static void proposalsToAFullNode() {
        for (int there = 15; there <= 16; there++) {
            Chain x = Scenes.timedOut(45);
            Play.fill(x, 2, there);
            x.begin();
            Check.due("messages", x.node(2, 11), 16);
            Check.due("the last of them", x.message(2, 15, 0), there == 15 ? 1 : 3);
            for (int i : new int[] {0, 1, 3}) {
                Check.due("the last to node " + i, x.message(i, 4, 0), 1);
            }
            Check.due("its one key is used", x.node(0, 7), 2);
        }
    }

    private static void votesToAFullNode() {
        for (int there = 15; there <= 16; there++) {
            Chain x = new Chain(45);
            x.begin();
            Play.fill(x, 0, there);
            x.deliver(1);
            Check.due("messages", x.node(0, 11), 16);
            Check.due("the last of them", x.message(0, 15, 0), there == 15 ? 2 : 1);
            Check.due("VOTED all the same", x.node(1, 5), 1);
            Check.due("and a key used", x.node(1, 7), 1);
        }
    }

    private static void timeoutsToAFullNode() {
        for (int there = 11; there <= 16; there++) {
            Chain x = new Chain(45);
            x.begin();
            Play.fill(x, 2, there);
            Play.ticks(x, 6);
            Check.due("messages", x.node(2, 11), Math.min(16, there + 4));
            for (int k = there; k < Math.min(16, there + 4); k++) {
                Check.due("the timeouts in order", x.message(2, k, 1), k - there);
            }
            Check.due("all come to node 1", x.node(1, 11), 5);
            Check.due("VOTED all the same", x.node(2, 5), 1);
        }
    }

    private static void asksToAFullNode() {
        for (int there = 15; there <= 16; there++) {
            Chain x = Scenes.blockOneIsMissing(1);
            Play.fill(x, 0, there);
            x.deliver(1);
            Check.due("messages", x.node(0, 11), 16);
            Check.due("the last of them", x.message(0, 15, 0), there == 15 ? 4 : 1);
        }
    }

    private static void blocksToAFullNode() {
        for (int there = 15; there <= 16; there++) {
            Chain x = Scenes.blockOneIsMissing(1);
            x.disturb(1, 2);
            x.deliver(1);
            x.disturb(0, 0);
            Play.fill(x, 1, there);
            Check.due("node 0 has the ask", x.deliver(0), 4);
            Check.due("messages", x.node(1, 11), 16);
            Check.due("the last of them", x.message(1, 15, 0), there == 15 ? 5 : 1);
        }
    }

    private static void liesToAFullNode() {
        for (int there = 15; there <= 16; there++) {
            Chain x = new Chain(45);
            x.begin();
            Play.fill(x, 1, there);
            Check.due("the lie is made", x.lie(1, 13, 0, NONE), 2);
            Check.due("messages", x.node(1, 11), 16);
            Check.due("the last of them", x.message(1, 15, 2), there == 15 ? 2 : 1);
            Play.fill(x, 2, there);
            Check.holds("the vote is made", x.lieVote(2, 2));
            Check.due("messages", x.node(2, 11), 16);
            Check.due("the last of them", x.message(2, 15, 0), there == 15 ? 2 : 1);
            Check.due("both keys are used", x.node(3, 7), 2);
        }
    }

    private static void whatArrivesMakesRoom() {
        Chain x = new Chain(45);
        x.begin();
        Play.fill(x, 0, 16);
        Check.due("its kind", x.deliver(0), 1);
        Check.due("sixteen with its own vote", x.node(0, 11), 16);
        Check.due("which is the last", x.message(0, 15, 0), 2);
        Check.due("and its own", x.message(0, 15, 1), 0);
    }

    private static void thirtyTwoKeys() {
        Check.sentence("What is to be signed is not sent when the 32 keys are used.",
                TermEdgesTest::timeoutsWithoutKeys);
        Check.sentence("What is to be signed is not sent when the 32 keys are used.", TermEdgesTest::votesWithoutKeys);
        Check.sentence("What is to be signed is not sent when the 32 keys are used.",
                TermEdgesTest::proposalsWithoutKeys);
        Check.sentence("What is to be signed is not sent when the 32 keys are used.", TermEdgesTest::beginWithoutKeys);
        Check.sentence("(4 and 5 are not signed.)", TermEdgesTest::asksWithoutKeys);
        Check.sentence("(4 and 5 are not signed.)", TermEdgesTest::blocksWithoutKeys);
    }

    private static void timeoutsWithoutKeys() {
        for (int used = 31; used <= 32; used++) {
            Chain x = Scenes.withKeysUsed(1, used);
            Check.due("keys used", x.node(1, 7), used);
            Play.ticks(x, 6);
            Check.due("timeouts to node 2", x.node(2, 11), used == 31 ? 4 : 3);
            Check.due("the sender of the second", x.message(2, 1, 1), used == 31 ? 1 : 2);
            Check.due("its key", x.message(2, 1, 4), used == 31 ? 31 : 0);
            Check.due("all are used", x.node(1, 7), 32);
            Check.due("the span", x.node(1, 3), 12);
            Check.due("the timer", x.node(1, 2), 12);
        }
    }

    private static void votesWithoutKeys() {
        for (int used = 31; used <= 32; used++) {
            Chain x = Scenes.withKeysUsed(1, used);
            x.lie(1, 13, 0, NONE);
            x.deliver(1);
            Check.due("votes to node 3", x.node(3, 11), 32 - used);
            Check.due("the key", x.message(3, 0, 4), used == 31 ? 31 : NONE);
            Check.due("all are used", x.node(1, 7), 32);
            Check.due("VOTED", x.node(1, 5), 13);
            Check.due("the view", x.node(1, 1), 13);
        }
    }

    private static void proposalsWithoutKeys() {
        for (int used = 30; used <= 31; used++) {
            Chain x = new Chain(46);
            for (int i = 0; i < 3; i++) {
                x.lie(i, 14, 0, NONE);
                x.deliver(i);
            }
            for (int k = 3; k < used; k++) {
                x.lieVote(1, 1);
            }
            Play.loseAll(x);
            Play.ticks(x, 6);
            Check.due("node 3's timeout takes a key too", x.node(3, 7), used + 1);
            Play.lose(x, 0);
            Play.deliver(x, 3, 3);
            Check.due("node 3 leads view 15", x.block(4, 0), 15);
            Check.due("and has its block", x.block(4, 4), 8);
            Check.due("the proposal", x.node(0, 11), used == 30 ? 1 : 0);
            Check.due("its key", x.message(0, 0, 4), used == 30 ? 31 : NONE);
            Check.due("all are used", x.node(3, 7), 32);
        }
    }

    private static void beginWithoutKeys() {
        for (int used = 31; used <= 32; used++) {
            Chain x = Scenes.withKeysUsed(0, used);
            Check.holds("begin", x.begin());
            Check.due("its block", x.about(1), 2);
            Check.due("that node 0 has", x.block(1, 4), 1);
            for (int i = 0; i < 4; i++) {
                Check.due("proposals to node " + i, x.node(i, 11), 32 - used);
                Check.due("the key", x.message(i, 0, 4), used == 31 ? 31 : NONE);
            }
            Check.due("all are used", x.node(0, 7), 32);
        }
    }

    private static void asksWithoutKeys() {
        Chain x = Scenes.withKeysUsed(1, 32);
        x.begin();
        x.disturb(1, 0);
        for (int i : new int[] {0, 2, 3}) {
            x.deliver(i);
        }
        Play.deliver(x, 0, 3);
        x.disturb(0, 0);
        x.deliver(1);
        Check.due("an ask", x.message(0, 0, 0), 4);
        Check.due("of node 1", x.message(0, 0, 1), 1);
        Check.due("all keys are used", x.node(1, 7), 32);
    }

    private static void blocksWithoutKeys() {
        Chain x = new Chain(47);
        x.begin();
        x.disturb(1, 0);
        for (int i : new int[] {0, 2, 3}) {
            x.deliver(i);
        }
        Play.deliver(x, 0, 3);
        x.disturb(1, 0);
        x.lie(1, 13, 1, NONE);
        for (int k = x.node(3, 7); k < 32; k++) {
            x.lieVote(2, 1);
        }
        x.disturb(3, 0);
        x.deliver(1);
        Check.due("node 3 is asked", x.deliver(3), 4);
        Check.due("all its keys are used", x.node(3, 7), 32);
        Check.due("a block", x.message(1, 0, 0), 5);
        Check.due("of node 3", x.message(1, 0, 1), 3);
    }

    private static void enterAndPropose() {
        Check.sentence("the view is v, the timer is the span", TermEdgesTest::timersOfNewViews);
        // Not reached: "a new block (none when there are 100)", as there are never more than 66 (see blocks).
        Check.sentence("the first transaction of its pool that is in no block of the chain from HIGH down",
                TermEdgesTest::transactionsOfTheChain);
        Check.sentence("in no block of the chain from HIGH down, if there is one",
                TermEdgesTest::transactionsBesideTheChain);
        Check.sentence("a PROPOSAL goes to nodes 0, 1, 2, 3 (one signature for all)",
                TermEdgesTest::oneSignatureForAll);
    }

    private static void timersOfNewViews() {
        Chain x = new Chain(48);
        int[] spans = {12, 24, 24};
        for (int v = 1; v <= 3; v++) {
            Play.ticks(x, v == 1 ? 6 : spans[v - 2]);
            x.tick();
            Check.due("the timer before", x.node(1, 2), spans[v - 1] - 1);
            Play.deliver(x, 1, 3);
            Check.due("the view", x.node(1, 1), v + 1);
            Check.due("the timer is the span", x.node(1, 2), spans[v - 1]);
            for (int i : new int[] {0, 2, 3}) {
                Play.deliver(x, i, 3);
            }
            Play.loseAll(x);
        }
    }

    private static void transactionsOfTheChain() {
        Chain x = new Chain(48);
        x.begin();
        Check.due("an empty pool", x.block(1, 2), NONE);
        for (int t = 0; t < 3; t++) {
            x.transaction(0, 1, 1, t);
        }
        x.submit(0, 1);
        x.submit(0, 2);
        Play.runUntilBlock(x, 2);
        Check.due("the first", x.block(2, 2), 1);
        x.submit(0, 0);
        Play.runUntilBlock(x, 4);
        Check.due("the second", x.block(3, 2), 2);
        Check.due("what came last", x.block(4, 2), 0);
        x.submit(1, 0);
        x.submit(1, 1);
        Play.runUntilBlock(x, 5);
        Check.due("node 1's are all in the chain", x.block(5, 2), NONE);
        x.submit(1, x.transaction(0, 1, 1, 3));
        Play.runUntilBlock(x, 6);
        Check.due("the one that is not", x.block(6, 2), 3);
    }

    private static void transactionsBesideTheChain() {
        Chain x = new Chain(48);
        x.submit(0, x.transaction(0, 1, 1, 0));
        x.submit(0, x.transaction(0, 1, 1, 1));
        x.begin();
        Check.due("block 1 has transaction 0", x.block(1, 2), 0);
        Play.loseAll(x);
        Play.ticks(x, 6);
        Play.deliver(x, 0, 3);
        Check.due("block 2 is on block 0", x.block(2, 1), 0);
        Check.due("so it has it too", x.block(2, 2), 0);
    }

    private static void oneSignatureForAll() {
        Chain x = Scenes.timedOut(48);
        Check.due("a timeout takes one key", x.node(0, 7), 1);
        x.begin();
        Check.due("a proposal takes one", x.node(0, 7), 2);
        for (int i = 0; i < 4; i++) {
            Check.due("the key to node " + i, x.message(i, 4, 4), 1);
            Check.due("that of the timeout", x.message(i, 0, 4), 0);
            for (int k = 0; k < 4; k++) {
                x.disturb(i, 1);
            }
            x.deliver(i);
            Check.due("it is good for node " + i, x.block(1, 4) >> i & 1, 1);
        }
    }

    private static void ticks() {
        Check.sentence("its timer goes down by 1; at 0", TermEdgesTest::timersRunOut);
        Check.sentence("VOTED becomes its view if that is above", TermEdgesTest::votedByTimeouts);
        // Not reached: a VOTED above the view, which is never below VOTED: whoever votes enters the block's view.
        Check.sentence("the span doubles, to at most 24, the timer is the span", TermEdgesTest::spansDouble);
        Check.sentence("for each node that is up, 0 to 3", TermEdgesTest::nodesThatAreDownDoNotTick);
    }

    private static void timersRunOut() {
        Chain x = new Chain(58);
        for (int k = 5; k >= 1; k--) {
            x.tick();
            for (int i = 0; i < 4; i++) {
                Check.due("the timer", x.node(i, 2), k);
                Check.due("nothing is sent", x.node(i, 11), 0);
            }
        }
        x.tick();
        for (int i = 0; i < 4; i++) {
            Check.due("the timer is the span", x.node(i, 2), 12);
            Check.due("four timeouts", x.node(i, 11), 4);
            for (int k = 0; k < 4; k++) {
                Check.due("in the order of nodes", x.message(i, k, 1), k);
            }
        }
    }

    private static void votedByTimeouts() {
        Chain x = new Chain(58);
        x.begin();
        x.deliver(1);
        Check.due("node 1 has voted in view 1", x.node(1, 5), 1);
        Play.ticks(x, 6);
        Check.due("it is the same by a timeout", x.node(1, 5), 1);
        Check.due("node 2 has not voted", x.node(2, 7), 1);
        Check.due("its VOTED is its view", x.node(2, 5), 1);
        Play.deliver(x, 1, 3);
        Check.due("node 1 is in view 2", x.node(1, 1), 2);
        Check.due("VOTED is 1", x.node(1, 5), 1);
        Play.ticks(x, 12);
        Check.due("VOTED becomes 2", x.node(1, 5), 2);
        Check.due("the view stays", x.node(1, 1), 2);
    }

    private static void spansDouble() {
        Chain x = new Chain(58);
        int[] spans = {6, 12, 24, 24, 24, 24};
        for (int k = 0; k < 5; k++) {
            Play.ticks(x, spans[k] - 1);
            Check.due("the span before", x.node(3, 3), spans[k]);
            Check.due("the timer before", x.node(3, 2), 1);
            Check.due("timeouts before", x.node(3, 7), k);
            x.tick();
            Check.due("the span", x.node(3, 3), spans[k + 1]);
            Check.due("the timer", x.node(3, 2), spans[k + 1]);
            Check.due("timeouts", x.node(3, 7), k + 1);
        }
    }

    private static void nodesThatAreDownDoNotTick() {
        Chain x = new Chain(58);
        Play.ticks(x, 5);
        x.crash(1);
        Play.ticks(x, 20);
        Check.due("no key is used", x.node(1, 7), 0);
        Check.due("VOTED", x.node(1, 5), 0);
        Check.due("two timeouts of each other one", x.node(0, 11), 6);
        x.restart(1);
        Check.due("the timer", x.node(1, 2), 6);
    }

    private static void crashesAndStarts() {
        Check.sentence("Its STORE outlasts crashes", TermEdgesTest::whatACrashLeaves);
        Check.sentence("loses all but the store, also what is on the way to it", TermEdgesTest::whatACrashTakes);
        Check.sentence("loses all but the store", TermEdgesTest::votesACrashTakes);
        Check.sentence("loses all but the store", TermEdgesTest::timeoutsACrashTakes);
        Check.sentence("HIGH is, of the parents of the blocks that it has, the one with the greatest view",
                TermEdgesTest::highAtAStart);
        Check.sentence("(0 if there is none; they are certified)", TermEdgesTest::highWithoutBlocks);
        // Not reached: "the least of several". Parents are certified, and two certified blocks never share a view:
        // each has votes of two of nodes 0 to 2, and each of these votes once in a view.
        Check.sentence("its view is VOTED, at least 1, timer and span are 6", TermEdgesTest::viewAtAStart);
    }

    private static void whatACrashLeaves() {
        Chain x = new Chain(59);
        x.submit(0, x.transaction(3, 1, 40, 0));
        x.begin();
        Play.runUntilBlock(x, 5);
        Play.deliverAll(x, 2);
        int[] due = {5, 3, 5, 3, 6};
        for (int times = 0; times < 3; times++) {
            for (int what = 5; what <= 9; what++) {
                Check.due("node(2, " + what + ") behind " + times + " crashes", x.node(2, what), due[what - 5]);
            }
            for (int k = 0; k < 3; k++) {
                Check.due("its log", x.log(2, k), k);
            }
            Check.due("money", x.account(2, 3, 0), 60);
            Check.due("nonce", x.account(2, 3, 1), 1);
            Check.due("who has block 5", x.block(5, 4) >> 2 & 1, 1);
            x.crash(2);
            x.restart(2);
        }
    }

    private static void whatACrashTakes() {
        Chain x = new Chain(59);
        x.transaction(0, 1, 1, 0);
        x.submit(0, 0);
        x.begin();
        x.deliver(0);
        x.tick();
        Check.due("its own vote is on the way", x.node(0, 11), 1);
        x.crash(0);
        x.restart(0);
        Check.due("nothing is on the way", x.node(0, 11), 0);
        Check.due("nothing is in the pool", x.node(0, 10), 0);
        Check.due("it has block 1", x.node(0, 9), 2);
        Check.due("VOTED", x.node(0, 5), 1);
        Check.due("keys used", x.node(0, 7), 2);
        Check.due("what is on the way to others stays", x.node(1, 11), 1);
    }

    private static void votesACrashTakes() {
        Chain x = new Chain(59);
        x.begin();
        x.deliver(0);
        x.deliver(1);
        Play.deliver(x, 0, 2);
        x.crash(0);
        x.restart(0);
        x.deliver(2);
        x.deliver(0);
        Check.due("two before and one since", x.block(1, 3), 0);
        x.lieVote(0, 1);
        x.deliver(0);
        Check.due("two before and two since", x.block(1, 3), 0);
        Chain y = new Chain(59);
        y.begin();
        y.deliver(0);
        y.deliver(0);
        y.crash(0);
        y.restart(0);
        for (int i = 1; i < 4; i++) {
            Check.due("one before and " + (i - 1) + " since", y.block(1, 3), 0);
            y.deliver(i);
            y.deliver(0);
        }
        Check.due("three since", y.block(1, 3), 1);
    }

    private static void timeoutsACrashTakes() {
        Chain x = Scenes.timedOut(59);
        Play.deliver(x, 1, 2);
        x.crash(1);
        x.restart(1);
        Play.ticks(x, 12);
        Check.due("its own, then those of nodes 0, 2 and 3", x.node(1, 11), 4);
        x.deliver(1);
        x.disturb(1, 1);
        x.deliver(1);
        Check.due("two before and two since, of three nodes", x.node(1, 1), 1);
        x.deliver(1);
        Check.due("three since", x.node(1, 1), 2);
    }

    private static void highAtAStart() {
        Chain x = Scenes.forked();
        x.deliver(2);
        x.crash(2);
        x.restart(2);
        Check.due("block 7 of view 14, not block 2", x.node(2, 4), 7);
        x.crash(0);
        x.restart(0);
        Check.due("node 0 has not block 8: block 2", x.node(0, 4), 2);
        Chain y = Scenes.withBlockTwoProposed(59);
        Play.lose(y, 1);
        Play.ticks(y, 6);
        y.deliver(1);
        Check.due("a timeout brought block 1", y.node(1, 4), 1);
        y.crash(1);
        y.restart(1);
        Check.due("but no block on it", y.node(1, 4), 0);
        y.crash(0);
        y.restart(0);
        Check.due("node 0 has block 2 on it", y.node(0, 4), 1);
    }

    private static void highWithoutBlocks() {
        Chain x = new Chain(59);
        for (int i = 0; i < 4; i++) {
            x.crash(i);
            x.restart(i);
            Check.due("HIGH", x.node(i, 4), 0);
        }
        Check.same("as new", x.all(), new Chain(59).all());
    }

    private static void viewAtAStart() {
        Chain x = new Chain(59);
        x.crash(1);
        x.restart(1);
        Check.due("VOTED 0", x.node(1, 1), 1);
        Play.ticks(x, 6);
        Check.due("the span before", x.node(1, 3), 12);
        x.crash(1);
        x.restart(1);
        Check.due("VOTED 1", x.node(1, 1), 1);
        Check.due("the span", x.node(1, 3), 6);
        Check.due("the timer", x.node(1, 2), 6);
        Play.deliver(x, 0, 3);
        x.deliver(1);
        Check.due("VOTED", x.node(1, 5), 2);
        x.crash(1);
        x.restart(1);
        Check.due("VOTED 2", x.node(1, 1), 2);
        Play.deliver(x, 2, 3);
        Check.due("node 2 is in view 2", x.node(2, 1), 2);
        x.crash(2);
        x.restart(2);
        Check.due("but has not voted in it", x.node(2, 1), 1);
        x.lie(3, 48, 0, NONE);
        Play.deliverAll(x, 3);
        x.crash(3);
        x.restart(3);
        Check.due("VOTED 48", x.node(3, 1), 48);
    }
}
