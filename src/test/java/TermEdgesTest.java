/**
 * The document's terms, sentence by sentence: what is still so and what no longer is, on both sides of each
 * limit. A line that begins with "Not reached" names a sentence whose edge no run of 512 calls comes to.
 */
public final class TermEdgesTest {
    private static final int NONE = QuorumChain.NONE;

    private TermEdgesTest() {
    }

    public static void main(String[] args) {
        keys();
        blocks();
        nodesAtFirst();
        sixteenMessages();
        thirtyTwoKeys();
        enterAndPropose();
        arriving();
        proposals();
        votesForProposals();
        votes();
        timeouts();
        asksAndBlocks();
        commits();
        ticks();
        crashesAndStarts();
        Check.end();
    }

    private static void keys() {
        Check.sentence("node i has KEYS 0 .. 31", TermEdgesTest::eachKeyOnce);
        Check.sentence("(as the bits of k say, left or right)", TermEdgesTest::eachKeyIsGoodAndCanBeSpoiled);
        Check.sentence("each number of a higher row is FOLD(left, right) of two neighbours",
                TermEdgesTest::rootsByHand);
    }

    private static void eachKeyOnce() {
        Chain x = new Chain(41);
        x.begin();
        for (int k = 0; k < 32; k++) {
            Check.due("keys used before", x.node(3, 7), k);
            x.lieVote(k % 4, 1);
            if (k < 8) {
                Check.due("the key", x.message(k % 4, 1 + k / 4, 4), k);
            }
        }
        Check.due("keys used", x.node(3, 7), 32);
        Check.refusesState("a 33rd", x, () -> x.lieVote(0, 1));
        Check.due("the other nodes' keys", x.node(1, 7), 0);
    }

    private static void eachKeyIsGoodAndCanBeSpoiled() {
        Chain x = new Chain(42);
        for (int k = 0; k < 32; k++) {
            int b = x.lie(1, 13, 0, NONE);
            x.disturb(1, 2);
            x.alter(1, k % 11, 1L << k);
            Check.due("the key", x.message(1, 0, 4), k);
            x.deliver(1);
            Check.due("a spoiled signature of key " + k, x.block(b, 4), 8);
            x.deliver(1);
            Check.due("a signature of key " + k, x.block(b, 4), 10);
        }
    }

    private static void rootsByHand() {
        for (int seed : new int[] {0, 7, -7, Integer.MIN_VALUE, Integer.MAX_VALUE}) {
            Chain x = new Chain(seed);
            for (int i = 0; i < 4; i++) {
                Check.due("root(" + i + ") of seed " + seed, x.root(i), new NaiveChain(seed).root(i));
            }
        }
    }

    private static void blocks() {
        // Not reached: "(at most 100 in all)". Each block but block 0 and begin's takes one of node 3's keys (a
        // lie), or keys of three nodes (votes or timeouts): at most 2 + 32 + 96 / 3 = 66.
        Check.sentence("Block 0 has view 0, no parent, and is CERTIFIED.", TermEdgesTest::blockZero);
        Check.sentence("A block is certified once a leader has three votes for it.", TermEdgesTest::threeVotes);
        Check.sentence("The LEADER of view v (1, 2, ..) is node (v - 1) / 4 % 4.", TermEdgesTest::leadersPropose);
        Check.sentence("The LEADER of view v (1, 2, ..) is node (v - 1) / 4 % 4.", TermEdgesTest::leadersGetVotes);
    }

    private static void blockZero() {
        Chain x = new Chain(41);
        int[] due = {0, NONE, NONE, 1, 15};
        for (int what = 0; what < due.length; what++) {
            Check.due("block(0, " + what + ")", x.block(0, what), due[what]);
        }
    }

    private static void threeVotes() {
        Chain x = new Chain(41);
        x.begin();
        for (int i = 0; i < 4; i++) {
            x.deliver(i);
        }
        for (int votes = 1; votes <= 4; votes++) {
            x.deliver(0);
            Check.due("certified by " + votes, x.block(1, 3), votes >= 3 ? 1 : 0);
            Check.due("blocks with " + votes, x.about(1), votes >= 3 ? 3 : 2);
        }
    }

    private static void leadersPropose() {
        Chain x = new Chain(43);
        x.begin();
        int[] leaders = {NONE, 0, 0, 0, 0, 1, 1, 1, 1, 2, 2, 2, 2, 3, 3, 3, 3, 0};
        for (int b = 1; b <= 17; b++) {
            Play.runUntilBlock(x, b);
            Check.due("view of block " + b, x.block(b, 0), b);
            Check.due("who alone has it when it is new", x.block(b, 4), 1 << leaders[b]);
        }
    }

    private static void leadersGetVotes() {
        int[] views = {13, 14, 15, 16, 29, 32, 45, 48};
        int[] next = {3, 3, 3, 0, 3, 0, 3, 0};
        for (int k = 0; k < views.length; k++) {
            Chain x = new Chain(43);
            x.lie(1, views[k], 0, NONE);
            x.deliver(1);
            for (int i = 0; i < 4; i++) {
                Check.due("votes in view " + views[k] + " to node " + i, x.node(i, 11), i == next[k] ? 1 : 0);
            }
        }
        Chain y = new Chain(43);
        y.begin();
        Play.runUntilBlock(y, 4);
        Play.lose(y, 0);
        Play.lose(y, 1);
        Play.deliverAll(y, 2);
        Check.due("the vote in view 4 goes to node 1", y.node(1, 11), 1);
        Check.due("that in view 3 went to node 0", y.node(0, 11), 0);
    }

    private static void nodesAtFirst() {
        Check.sentence("has a VIEW (1 at first), a TIMER and a SPAN (6 both), HIGH (a certified block, 0 at first)",
                () -> nodeAtFirst(new int[] {1, 2, 3, 4, 10}, new int[] {1, 6, 6, 0, 0}));
        Check.sentence("VOTED (the last view in which it voted or timed out, 0 at first)",
                () -> nodeAtFirst(new int[] {5}, new int[] {0}));
        Check.sentence("LOCKED (a block, 0 at first)", () -> nodeAtFirst(new int[] {6, 7, 9}, new int[] {0, 0, 1}));
        Check.sentence("its LOG of committed blocks (0 at first, first in it)", TermEdgesTest::logAtFirst);
        Check.sentence("ACCOUNTS 0 .. 3 have 100 and NONCE 0 at first", TermEdgesTest::accountsAtFirst);
    }

    private static void nodeAtFirst(int[] whats, int[] due) {
        Chain x = new Chain(44);
        for (int i = 0; i < 4; i++) {
            for (int k = 0; k < whats.length; k++) {
                Check.due("node(" + i + ", " + whats[k] + ")", x.node(i, whats[k]), due[k]);
            }
        }
    }

    private static void logAtFirst() {
        Chain x = new Chain(44);
        for (int i = 0; i < 4; i++) {
            Check.due("its length", x.node(i, 8), 1);
            Check.due("its block", x.log(i, 0), 0);
            Check.due("no second", x.log(i, 1), NONE);
        }
    }

    private static void accountsAtFirst() {
        Chain x = new Chain(44);
        for (int i = 0; i < 4; i++) {
            for (int a = 0; a < 4; a++) {
                Check.due("money", x.account(i, a, 0), 100);
                Check.due("nonce", x.account(i, a, 1), 0);
            }
        }
    }

    private static void sixteenMessages() {
        Check.sentence("one that is sent when there are 16 is lost", TermEdgesTest::proposalsToAFullNode);
        Check.sentence("one that is sent when there are 16 is lost", TermEdgesTest::votesToAFullNode);
        Check.sentence("one that is sent when there are 16 is lost", TermEdgesTest::timeoutsToAFullNode);
        Check.sentence("one that is sent when there are 16 is lost", TermEdgesTest::asksToAFullNode);
        Check.sentence("one that is sent when there are 16 is lost", TermEdgesTest::blocksToAFullNode);
        Check.sentence("one that is sent when there are 16 is lost", TermEdgesTest::liesToAFullNode);
        Check.sentence("MESSAGES to a node (also to itself), at most 16 on the way to each, in order",
                TermEdgesTest::whatArrivesMakesRoom);
    }

    private static void proposalsToAFullNode() {
        for (int there = 15; there <= 16; there++) {
            Chain x = Scenes.timedOut(45);
            Play.fill(x, 2, there);
            x.begin();
            Check.due("messages", x.node(2, 11), 16);
            Check.due("the last of them", x.message(2, 15, 0), there == 15 ? 1 : 3);
            for (int i : new int[] {0, 1, 3}) {
                Check.due("the last to node " + i, x.message(i, 4, 0), 1);
            }
            Check.due("its one key is used", x.node(0, 7), 2);
        }
    }

    private static void votesToAFullNode() {
        for (int there = 15; there <= 16; there++) {
            Chain x = new Chain(45);
            x.begin();
            Play.fill(x, 0, there);
            x.deliver(1);
            Check.due("messages", x.node(0, 11), 16);
            Check.due("the last of them", x.message(0, 15, 0), there == 15 ? 2 : 1);
            Check.due("VOTED all the same", x.node(1, 5), 1);
            Check.due("and a key used", x.node(1, 7), 1);
        }
    }

    private static void timeoutsToAFullNode() {
        for (int there = 11; there <= 16; there++) {
            Chain x = new Chain(45);
            x.begin();
            Play.fill(x, 2, there);
            Play.ticks(x, 6);
            Check.due("messages", x.node(2, 11), Math.min(16, there + 4));
            for (int k = there; k < Math.min(16, there + 4); k++) {
                Check.due("the timeouts in order", x.message(2, k, 1), k - there);
            }
            Check.due("all come to node 1", x.node(1, 11), 5);
            Check.due("VOTED all the same", x.node(2, 5), 1);
        }
    }

    /** Node 1 has not block 1, and block 2 on it is on the way to it, so many times. */
    private static Chain blockOneIsMissing(int copies) {
        Chain x = new Chain(45);
        x.begin();
        x.disturb(1, 0);
        for (int i : new int[] {0, 2, 3}) {
            x.deliver(i);
        }
        Play.deliver(x, 0, 3);
        Play.fill(x, 1, copies);
        return x;
    }

    private static void asksToAFullNode() {
        for (int there = 15; there <= 16; there++) {
            Chain x = blockOneIsMissing(1);
            Play.fill(x, 0, there);
            x.deliver(1);
            Check.due("messages", x.node(0, 11), 16);
            Check.due("the last of them", x.message(0, 15, 0), there == 15 ? 4 : 1);
        }
    }

    private static void blocksToAFullNode() {
        for (int there = 15; there <= 16; there++) {
            Chain x = blockOneIsMissing(1);
            x.disturb(1, 2);
            x.deliver(1);
            x.disturb(0, 0);
            Play.fill(x, 1, there);
            Check.due("node 0 has the ask", x.deliver(0), 4);
            Check.due("messages", x.node(1, 11), 16);
            Check.due("the last of them", x.message(1, 15, 0), there == 15 ? 5 : 1);
        }
    }

    private static void liesToAFullNode() {
        for (int there = 15; there <= 16; there++) {
            Chain x = new Chain(45);
            x.begin();
            Play.fill(x, 1, there);
            Check.due("the lie is made", x.lie(1, 13, 0, NONE), 2);
            Check.due("messages", x.node(1, 11), 16);
            Check.due("the last of them", x.message(1, 15, 2), there == 15 ? 2 : 1);
            Play.fill(x, 2, there);
            Check.holds("the vote is made", x.lieVote(2, 2));
            Check.due("messages", x.node(2, 11), 16);
            Check.due("the last of them", x.message(2, 15, 0), there == 15 ? 2 : 1);
            Check.due("both keys are used", x.node(3, 7), 2);
        }
    }

    private static void whatArrivesMakesRoom() {
        Chain x = new Chain(45);
        x.begin();
        Play.fill(x, 0, 16);
        Check.due("its kind", x.deliver(0), 1);
        Check.due("sixteen with its own vote", x.node(0, 11), 16);
        Check.due("which is the last", x.message(0, 15, 0), 2);
        Check.due("and its own", x.message(0, 15, 1), 0);
    }

    private static void thirtyTwoKeys() {
        Check.sentence("What is to be signed is not sent when the 32 keys are used.",
                TermEdgesTest::timeoutsWithoutKeys);
        Check.sentence("What is to be signed is not sent when the 32 keys are used.", TermEdgesTest::votesWithoutKeys);
        Check.sentence("What is to be signed is not sent when the 32 keys are used.",
                TermEdgesTest::proposalsWithoutKeys);
        Check.sentence("What is to be signed is not sent when the 32 keys are used.", TermEdgesTest::beginWithoutKeys);
        Check.sentence("(4 and 5 are not signed.)", TermEdgesTest::asksWithoutKeys);
        Check.sentence("(4 and 5 are not signed.)", TermEdgesTest::blocksWithoutKeys);
    }

    private static void timeoutsWithoutKeys() {
        for (int used = 31; used <= 32; used++) {
            Chain x = Scenes.withKeysUsed(1, used);
            Check.due("keys used", x.node(1, 7), used);
            Play.ticks(x, 6);
            Check.due("timeouts to node 2", x.node(2, 11), used == 31 ? 4 : 3);
            Check.due("the sender of the second", x.message(2, 1, 1), used == 31 ? 1 : 2);
            Check.due("its key", x.message(2, 1, 4), used == 31 ? 31 : 0);
            Check.due("all are used", x.node(1, 7), 32);
            Check.due("the span", x.node(1, 3), 12);
            Check.due("the timer", x.node(1, 2), 12);
        }
    }

    private static void votesWithoutKeys() {
        for (int used = 31; used <= 32; used++) {
            Chain x = Scenes.withKeysUsed(1, used);
            x.lie(1, 13, 0, NONE);
            x.deliver(1);
            Check.due("votes to node 3", x.node(3, 11), 32 - used);
            Check.due("the key", x.message(3, 0, 4), used == 31 ? 31 : NONE);
            Check.due("all are used", x.node(1, 7), 32);
            Check.due("VOTED", x.node(1, 5), 13);
            Check.due("the view", x.node(1, 1), 13);
        }
    }

    private static void proposalsWithoutKeys() {
        for (int used = 30; used <= 31; used++) {
            Chain x = new Chain(46);
            for (int i = 0; i < 3; i++) {
                x.lie(i, 14, 0, NONE);
                x.deliver(i);
            }
            for (int k = 3; k < used; k++) {
                x.lieVote(1, 1);
            }
            Play.loseAll(x);
            Play.ticks(x, 6);
            Check.due("node 3's timeout takes a key too", x.node(3, 7), used + 1);
            Play.lose(x, 0);
            Play.deliver(x, 3, 3);
            Check.due("node 3 leads view 15", x.block(4, 0), 15);
            Check.due("and has its block", x.block(4, 4), 8);
            Check.due("the proposal", x.node(0, 11), used == 30 ? 1 : 0);
            Check.due("its key", x.message(0, 0, 4), used == 30 ? 31 : NONE);
            Check.due("all are used", x.node(3, 7), 32);
        }
    }

    private static void beginWithoutKeys() {
        for (int used = 31; used <= 32; used++) {
            Chain x = Scenes.withKeysUsed(0, used);
            Check.holds("begin", x.begin());
            Check.due("its block", x.about(1), 2);
            Check.due("that node 0 has", x.block(1, 4), 1);
            for (int i = 0; i < 4; i++) {
                Check.due("proposals to node " + i, x.node(i, 11), 32 - used);
                Check.due("the key", x.message(i, 0, 4), used == 31 ? 31 : NONE);
            }
            Check.due("all are used", x.node(0, 7), 32);
        }
    }

    private static void asksWithoutKeys() {
        Chain x = Scenes.withKeysUsed(1, 32);
        x.begin();
        x.disturb(1, 0);
        for (int i : new int[] {0, 2, 3}) {
            x.deliver(i);
        }
        Play.deliver(x, 0, 3);
        x.disturb(0, 0);
        x.deliver(1);
        Check.due("an ask", x.message(0, 0, 0), 4);
        Check.due("of node 1", x.message(0, 0, 1), 1);
        Check.due("all keys are used", x.node(1, 7), 32);
    }

    private static void blocksWithoutKeys() {
        Chain x = new Chain(47);
        x.begin();
        x.disturb(1, 0);
        for (int i : new int[] {0, 2, 3}) {
            x.deliver(i);
        }
        Play.deliver(x, 0, 3);
        x.disturb(1, 0);
        x.lie(1, 13, 1, NONE);
        for (int k = x.node(3, 7); k < 32; k++) {
            x.lieVote(2, 1);
        }
        x.disturb(3, 0);
        x.deliver(1);
        Check.due("node 3 is asked", x.deliver(3), 4);
        Check.due("all its keys are used", x.node(3, 7), 32);
        Check.due("a block", x.message(1, 0, 0), 5);
        Check.due("of node 3", x.message(1, 0, 1), 3);
    }

    private static void enterAndPropose() {
        Check.sentence("the view is v, the timer is the span", TermEdgesTest::timersOfNewViews);
        // Not reached: "a new block (none when there are 100)", as there are never more than 66 (see blocks).
        Check.sentence("the first transaction of its pool that is in no block of the chain from HIGH down, if there is one",
                TermEdgesTest::transactionsOfTheChain);
        Check.sentence("the first transaction of its pool that is in no block of the chain from HIGH down, if there is one",
                TermEdgesTest::transactionsBesideTheChain);
        Check.sentence("a PROPOSAL goes to nodes 0, 1, 2, 3 (one signature for all)", TermEdgesTest::oneSignatureForAll);
    }

    private static void timersOfNewViews() {
        Chain x = new Chain(48);
        int[] spans = {12, 24, 24};
        for (int v = 1; v <= 3; v++) {
            Play.ticks(x, v == 1 ? 6 : spans[v - 2]);
            x.tick();
            Check.due("the timer before", x.node(1, 2), spans[v - 1] - 1);
            Play.deliver(x, 1, 3);
            Check.due("the view", x.node(1, 1), v + 1);
            Check.due("the timer is the span", x.node(1, 2), spans[v - 1]);
            for (int i : new int[] {0, 2, 3}) {
                Play.deliver(x, i, 3);
            }
            Play.loseAll(x);
        }
    }

    private static void transactionsOfTheChain() {
        Chain x = new Chain(48);
        x.begin();
        Check.due("an empty pool", x.block(1, 2), NONE);
        for (int t = 0; t < 3; t++) {
            x.transaction(0, 1, 1, t);
        }
        x.submit(0, 1);
        x.submit(0, 2);
        Play.runUntilBlock(x, 2);
        Check.due("the first", x.block(2, 2), 1);
        x.submit(0, 0);
        Play.runUntilBlock(x, 4);
        Check.due("the second", x.block(3, 2), 2);
        Check.due("what came last", x.block(4, 2), 0);
        x.submit(1, 0);
        x.submit(1, 1);
        Play.runUntilBlock(x, 5);
        Check.due("node 1's are all in the chain", x.block(5, 2), NONE);
        x.submit(1, x.transaction(0, 1, 1, 3));
        Play.runUntilBlock(x, 6);
        Check.due("the one that is not", x.block(6, 2), 3);
    }

    private static void transactionsBesideTheChain() {
        Chain x = new Chain(48);
        x.submit(0, x.transaction(0, 1, 1, 0));
        x.submit(0, x.transaction(0, 1, 1, 1));
        x.begin();
        Check.due("block 1 has transaction 0", x.block(1, 2), 0);
        Play.loseAll(x);
        Play.ticks(x, 6);
        Play.deliver(x, 0, 3);
        Check.due("block 2 is on block 0", x.block(2, 1), 0);
        Check.due("so it has it too", x.block(2, 2), 0);
    }

    private static void oneSignatureForAll() {
        Chain x = Scenes.timedOut(48);
        Check.due("a timeout takes one key", x.node(0, 7), 1);
        x.begin();
        Check.due("a proposal takes one", x.node(0, 7), 2);
        for (int i = 0; i < 4; i++) {
            Check.due("the key to node " + i, x.message(i, 4, 4), 1);
            Check.due("that of the timeout", x.message(i, 0, 4), 0);
            for (int k = 0; k < 4; k++) {
                x.disturb(i, 1);
            }
            x.deliver(i);
            Check.due("it is good for node " + i, x.block(1, 4) >> i & 1, 1);
        }
    }

    private static void arriving() {
        Check.sentence("One of the kinds 1 to 3 does nothing when its signature is not good",
                TermEdgesTest::spoiledProposals);
        Check.sentence("One of the kinds 1 to 3 does nothing when its signature is not good",
                TermEdgesTest::spoiledVotes);
        Check.sentence("One of the kinds 1 to 3 does nothing when its signature is not good",
                TermEdgesTest::spoiledTimeouts);
        // Not reached: "or (PROPOSAL) when the sender is not the leader of the block's view". Only a leader
        // proposes, and lie refuses the views that node 3 does not lead.
    }

    private static void spoiledProposals() {
        Chain x = new Chain(49);
        x.begin();
        x.disturb(1, 2);
        x.alter(1, 0, 1);
        x.deliver(1);
        Check.due("it has it not", x.node(1, 9), 1);
        Check.due("no vote", x.node(1, 5), 0);
        Check.due("nothing is sent", x.node(0, 11), 1);
        x.deliver(1);
        Check.due("a vote for its copy", x.node(1, 5), 1);
        Chain y = blockOneIsMissing(2);
        y.alter(1, 10, 1);
        y.deliver(1);
        Check.due("a spoiled one is not a reason to ask", y.node(0, 11), 1);
        y.deliver(1);
        Check.due("a good one is", y.node(0, 11), 2);
    }

    private static void spoiledVotes() {
        Chain x = new Chain(49);
        x.begin();
        for (int i = 0; i < 3; i++) {
            x.deliver(i);
        }
        x.disturb(0, 2);
        x.alter(0, 5, 1);
        Play.deliver(x, 0, 3);
        Check.due("two good ones and a spoiled one", x.block(1, 3), 0);
        x.deliver(0);
        Check.due("with the copy", x.block(1, 3), 1);
    }

    private static void spoiledTimeouts() {
        Chain x = Scenes.timedOut(49);
        x.disturb(1, 0);
        x.disturb(1, 2);
        x.alter(1, 6, 1);
        Play.deliver(x, 1, 3);
        Check.due("two good ones and a spoiled one", x.node(1, 1), 1);
        x.deliver(1);
        Check.due("with the copy", x.node(1, 1), 2);
        Chain y = Scenes.withBlockTwoProposed(49);
        Play.lose(y, 1);
        Play.ticks(y, 6);
        y.alter(1, 0, 1);
        y.deliver(1);
        Check.due("a spoiled one brings no HIGH", y.node(1, 4), 0);
    }

    private static void proposals() {
        Check.sentence("when the node does not have its parent, it ASKS the sender for that, and nothing else",
                TermEdgesTest::askAndNothingElse);
        Check.sentence("HIGH becomes p if its view is above that of HIGH", TermEdgesTest::highStaysHigh);
        Check.sentence("LOCKED becomes p's parent q if its view is above that of LOCKED",
                TermEdgesTest::lockedStaysHigh);
        Check.sentence("and if q's parent r is there, q's view is 1 less than p's, and r's 1 less than q's",
                TermEdgesTest::withoutQOrR);
        Check.sentence("and if q's parent r is there, q's view is 1 less than p's, and r's 1 less than q's",
                TermEdgesTest::threeViewsInARow);
    }

    private static void askAndNothingElse() {
        Chain x = blockOneIsMissing(1);
        x.tick();
        x.deliver(1);
        int[] due = {1, 1, 5, 6, 0, 0, 0, 0, 1, 1, 0, 0};
        for (int what = 0; what < due.length; what++) {
            Check.due("node(1, " + what + ")", x.node(1, what), due[what]);
        }
        Check.due("the ask is for block 1", x.message(0, 1, 2), 1);
        Check.due("nothing goes to node 2", x.node(2, 11), 1);
    }

    /** Node 2 has got blocks 1 to 5, and a copy of the proposal of block b is on the way to it. */
    private static Chain withALateProposal(int b) {
        Chain x = new Chain(50);
        x.begin();
        for (int made = 1; made <= 5; made++) {
            int late = made > b ? 1 : 0;
            Play.runOthersUntilBlock(x, 2, made);
            if (late == 1) {
                x.disturb(2, 1);
            }
            if (made == b) {
                x.disturb(2, 2);
            }
            x.deliver(2);
        }
        return x;
    }

    private static void highStaysHigh() {
        for (int b = 1; b <= 5; b++) {
            Chain x = withALateProposal(b);
            Check.due("HIGH", x.node(2, 4), 4);
            Check.due("the late proposal", x.message(2, 0, 2), b);
            x.deliver(2);
            Check.due("HIGH behind it", x.node(2, 4), 4);
            Check.due("VOTED", x.node(2, 5), 5);
        }
    }

    private static void lockedStaysHigh() {
        for (int b = 1; b <= 5; b++) {
            Chain x = withALateProposal(b);
            Check.due("LOCKED", x.node(2, 6), 3);
            x.deliver(2);
            Check.due("LOCKED behind it", x.node(2, 6), 3);
        }
    }

    private static void withoutQOrR() {
        Chain x = new Chain(50);
        x.begin();
        int[] high = {0, 0, 1, 2, 3};
        int[] locked = {0, 0, 0, 1, 2};
        int[] logged = {1, 1, 1, 1, 2};
        for (int b = 1; b <= 4; b++) {
            Play.runOthersUntilBlock(x, 2, b);
            x.deliver(2);
            Check.due("HIGH by block " + b, x.node(2, 4), high[b]);
            Check.due("LOCKED by block " + b, x.node(2, 6), locked[b]);
            Check.due("the log by block " + b, x.node(2, 8), logged[b]);
        }
    }

    private static void threeViewsInARow() {
        Chain x = new Chain(50);
        x.begin();
        Play.runUntilBlock(x, 3);
        Play.loseAll(x);
        Play.ticks(x, 6);
        for (int i = 0; i < 4; i++) {
            Play.deliverAll(x, i);
        }
        Play.ticks(x, 12);
        int[] views = {0, 1, 2, 3, 4, 5, 6, 7};
        int[] logged = {1, 1, 1, 1, 1, 1, 1, 4};
        for (int b = 4; b <= 7; b++) {
            Play.runUntilBlock(x, b);
            Play.deliverAll(x, 2);
            Check.due("view of block " + b, x.block(b, 0), views[b]);
            Check.due("parent of block " + b, x.block(b, 1), b == 4 ? 2 : b - 1);
            Check.due("the log by block " + b, x.node(2, 8), logged[b]);
        }
        int[] due = {0, 1, 2, 4, NONE};
        for (int k = 0; k < due.length; k++) {
            Check.due("block " + k + " of the log", x.log(2, k), due[k]);
        }
    }

    private static void votesForProposals() {
        Check.sentence("If b's view is above VOTED", TermEdgesTest::aboveVoted);
        Check.sentence("and not below its own view", TermEdgesTest::notBelowItsView);
        Check.sentence("b is above LOCKED (LOCKED is below it)", TermEdgesTest::aboveLocked);
        Check.sentence("or p's view is above LOCKED's (as it is now)", TermEdgesTest::parentAboveLocked);
        // Not reached: a p that is not LOCKED and has its view. Both are certified, each with votes of two of
        // nodes 0 to 2, and each of these votes once in a view.
        Check.sentence("the span becomes 6, if p's view is 1 less than b's", TermEdgesTest::spanOfTheNextView);
    }

    private static void aboveVoted() {
        Chain x = Scenes.timedOut(51);
        x.begin();
        for (int k = 0; k < 4; k++) {
            x.disturb(1, 1);
        }
        Check.due("VOTED is 1", x.node(1, 5), 1);
        Check.due("a proposal of view 1", x.deliver(1), 1);
        Check.due("it has the block", x.node(1, 9), 2);
        Check.due("no vote", x.node(1, 7), 1);
        Play.deliver(x, 0, 3);
        for (int k = 0; k < 4; k++) {
            x.disturb(1, 1);
        }
        Check.due("view of block 2", x.block(2, 0), 2);
        Check.due("a proposal of view 2", x.deliver(1), 1);
        Check.due("a vote", x.node(1, 7), 2);
        Check.due("VOTED is 2", x.node(1, 5), 2);
        Check.due("the view", x.node(1, 1), 2);
    }

    private static void notBelowItsView() {
        Chain x = new Chain(51);
        Play.ticks(x, 5);
        x.crash(1);
        x.restart(1);
        x.begin();
        x.tick();
        x.disturb(1, 1);
        Play.deliver(x, 1, 3);
        Check.due("timeouts brought view 2", x.node(1, 1), 2);
        Check.due("VOTED is 0", x.node(1, 5), 0);
        Check.due("a proposal of view 1", x.deliver(1), 1);
        Check.due("it has the block", x.node(1, 9), 2);
        Check.due("no vote", x.node(1, 7), 0);
        Check.due("VOTED is 0 still", x.node(1, 5), 0);
        Play.deliver(x, 0, 4);
        Check.due("view of block 2", x.block(2, 0), 2);
        Check.due("a proposal of view 2", x.deliver(1), 1);
        Check.due("a vote", x.node(1, 7), 1);
        Check.due("VOTED is 2", x.node(1, 5), 2);
    }

    private static void aboveLocked() {
        Chain x = new Chain(51);
        x.begin();
        Play.runUntilBlock(x, 3);
        Play.deliverAll(x, 1);
        Play.deliverAll(x, 3);
        Check.due("LOCKED is block 1", x.node(1, 6), 1);
        x.lie(1, 13, 0, NONE);
        x.deliver(1);
        Check.due("a block beside it", x.node(1, 5), 3);
        x.lie(1, 13, 1, NONE);
        x.deliver(1);
        Check.due("a block on it", x.node(1, 5), 13);
        x.lie(1, 14, 2, NONE);
        x.deliver(1);
        Check.due("a block two above it", x.node(1, 5), 14);
    }

    private static void parentAboveLocked() {
        Chain x = Scenes.lockedBesideANextView();
        Check.due("LOCKED is block 1", x.node(2, 6), 1);
        Check.due("its view", x.block(1, 0), 1);
        Check.due("block 2 is beside it", x.block(2, 1), 0);
        Check.due("in the next view", x.block(2, 0), 2);
        Check.due("and certified", x.block(2, 3), 1);
        Check.due("VOTED", x.node(2, 5), 15);
        x.lie(2, 16, 0, NONE);
        x.deliver(2);
        Check.due("a parent in the view before LOCKED's", x.node(2, 5), 15);
        x.lie(2, 16, 2, NONE);
        x.deliver(2);
        Check.due("a parent in the view behind LOCKED's", x.node(2, 5), 16);
        Check.due("LOCKED stays", x.node(2, 6), 1);
    }

    private static void spanOfTheNextView() {
        Chain x = Scenes.timedOut(52);
        for (int i = 0; i < 4; i++) {
            Play.deliver(x, i, 4);
        }
        Check.due("block 1 has view 2 and parent 0", x.block(1, 0) * 10 + x.block(1, 1), 20);
        x.tick();
        x.deliver(1);
        Check.due("the span when the parent is two below", x.node(1, 3), 12);
        Check.due("the timer", x.node(1, 2), 12);
        for (int i : new int[] {0, 2}) {
            x.deliver(i);
        }
        Play.deliver(x, 0, 3);
        Check.due("block 2 has view 3 and parent 1", x.block(2, 0) * 10 + x.block(2, 1), 31);
        x.tick();
        x.deliver(1);
        Check.due("the span when it is one below", x.node(1, 3), 6);
        Check.due("the timer is the span", x.node(1, 2), 6);
        Check.due("the span of one that has not got it", x.node(2, 3), 12);
    }

    private static void votes() {
        Check.sentence("when the node has b and is the leader of the view behind b's",
                TermEdgesTest::votesForWhatTheLeaderHasNot);
        // Not reached: three votes at a node that is not "the leader of the view behind b's". Votes go to the
        // leader, and those of a lie, which may go elsewhere, are all of node 3.
        Check.sentence("it is kept (one for each node and block)", TermEdgesTest::votesOfOneNode);
        Check.sentence("it is kept (one for each node and block)", TermEdgesTest::votesForTwoBlocks);
        Check.sentence("if b's view is not below its view - 1", TermEdgesTest::votesInTheViewBehind);
        Check.sentence("if b's view is not below its view - 1", TermEdgesTest::votesTwoViewsLate);
        // Not reached: "b is above HIGH in view" with b in HIGH's view. Two certified blocks never share a view
        // (see votesForProposals), and b itself is not HIGH anywhere before its third vote has come; a second
        // count behind a crash would need votes of two more of nodes 0 to 2.
    }

    private static void votesForWhatTheLeaderHasNot() {
        Chain x = new Chain(53);
        x.begin();
        Play.runUntilBlock(x, 4);
        Play.lose(x, 1);
        for (int i : new int[] {0, 2, 3}) {
            Play.deliverAll(x, i);
        }
        Check.due("three votes for block 4 are on the way to node 1", x.node(1, 11), 3);
        Play.deliver(x, 1, 3);
        Check.due("which has it not", x.block(4, 4), 13);
        Check.due("and does not keep them", x.block(4, 3), 0);
        Check.due("nor enters view 5", x.node(1, 1), 3);
        Check.due("nor makes a block", x.about(1), 5);
    }

    private static void votesOfOneNode() {
        Chain x = new Chain(53);
        x.begin();
        x.deliver(0);
        for (int k = 0; k < 5; k++) {
            x.lieVote(0, 1);
        }
        x.disturb(0, 2);
        Play.deliver(x, 0, 7);
        Check.due("one of node 0, five of node 3, and a copy", x.block(1, 3), 0);
        x.deliver(1);
        x.deliver(0);
        Check.due("a third node's", x.block(1, 3), 1);
    }

    private static void votesForTwoBlocks() {
        Chain x = Scenes.timedOut(53);
        x.begin();
        Play.deliver(x, 0, 5);
        Check.due("blocks 1 and 2 are beside one another", x.block(1, 1) + x.block(2, 1), 0);
        Play.lose(x, 0);
        for (int b = 1; b <= 2; b++) {
            x.lieVote(0, b);
            x.deliver(0);
        }
        for (int i = 1; i < 3; i++) {
            Play.deliver(x, i, 6);
        }
        Check.due("votes for block 2", x.node(0, 11), 2);
        x.deliver(0);
        Check.due("two for block 2, one for block 1", x.block(2, 3), 0);
        x.deliver(0);
        Check.due("three for block 2", x.block(2, 3), 1);
        Check.due("one for block 1", x.block(1, 3), 0);
    }

    /** Three votes for block 1 are on the way to node 0, which timeouts have brought to view v. */
    private static Chain votesBehindTimeouts(int v) {
        Chain x = new Chain(53);
        x.begin();
        for (int i = 0; i < 3; i++) {
            x.deliver(i);
        }
        Play.lose(x, 3);
        for (int view = 1; view < v; view++) {
            Play.ticks(x, view == 1 ? 6 : 12);
            for (int k = 0; k < 3; k++) {
                x.disturb(0, 1);
            }
            Play.deliver(x, 0, 4);
            for (int i = 1; i < 4; i++) {
                Play.deliver(x, i, 4);
                Play.lose(x, i);
            }
            for (int k = 0; k < 3; k++) {
                x.disturb(0, 1);
            }
            x.disturb(0, 0);
        }
        return x;
    }

    private static void votesInTheViewBehind() {
        Chain x = votesBehindTimeouts(2);
        Check.due("node 0 is in view 2", x.node(0, 1), 2);
        x.tick();
        Play.deliver(x, 0, 3);
        Check.due("block 1 is certified", x.block(1, 3), 1);
        Check.due("HIGH", x.node(0, 4), 1);
        Check.due("the view", x.node(0, 1), 2);
        Check.due("entered anew", x.node(0, 2), 12);
        Check.due("a block on block 1", x.block(3, 1), 1);
        Check.due("of view 2 again", x.block(3, 0), 2);
    }

    private static void votesTwoViewsLate() {
        Chain x = votesBehindTimeouts(3);
        Check.due("node 0 is in view 3", x.node(0, 1), 3);
        int blocks = x.about(1);
        x.tick();
        int timer = x.node(0, 2);
        Play.deliver(x, 0, 3);
        Check.due("block 1 is certified", x.block(1, 3), 1);
        Check.due("HIGH is as it was", x.node(0, 4), 0);
        Check.due("so is the view", x.node(0, 1), 3);
        Check.due("so is the timer", x.node(0, 2), timer);
        Check.due("no new block", x.about(1), blocks);
    }

    private static void timeouts() {
        Check.sentence("when the node has h, and h is certified, HIGH becomes h if its view is above",
                TermEdgesTest::timeoutsBringHigh);
        // Not reached: "and h is certified". h is the sender's HIGH, which is certified.
        Check.sentence("It is kept (one for each node and view).", TermEdgesTest::timeoutsOfOneNode);
        Check.sentence("It is kept (one for each node and view).", TermEdgesTest::timeoutsWithABlockThatItHasNot);
        Check.sentence("When the third one for v comes", TermEdgesTest::thirdTimeout);
        Check.sentence("and v is not below its view", TermEdgesTest::timeoutsOfTheViewBefore);
        Check.sentence("and v is not below its view", TermEdgesTest::timeoutsOfALaterView);
        Check.sentence("it enters view v + 1, and proposes, if it is the leader of that",
                TermEdgesTest::timeoutsOfTheFourthView);
    }

    private static void timeoutsBringHigh() {
        Chain x = Scenes.lockedAtNodeTwo();
        Play.ticks(x, 6);
        Check.due("node 0's HIGH is block 2", x.message(3, 0, 2), 2);
        x.deliver(3);
        Check.due("which node 3 has not", x.node(3, 4), 0);
        x.deliver(1);
        Check.due("which node 1 has", x.node(1, 4), 2);
        x.deliver(1);
        Check.due("node 1's own was block 1", x.node(1, 4), 2);
        Play.deliver(x, 1, 2);
        Check.due("node 3's was block 0", x.node(1, 4), 2);
    }

    private static void timeoutsWithABlockThatItHasNot() {
        Chain x = new Chain(54);
        x.begin();
        for (int b = 1; b <= 2; b++) {
            x.disturb(3, 0);
            for (int i = 0; i < 3; i++) {
                x.deliver(i);
            }
            Play.deliver(x, 0, b == 1 ? 3 : 0);
        }
        Play.ticks(x, 6);
        for (int k = 0; k < 3; k++) {
            Check.due("a timeout of view 2 with block 1", x.message(3, k, 3) * 10 + x.message(3, k, 2), 21);
        }
        Play.deliver(x, 3, 2);
        Check.due("two of them", x.node(3, 1), 1);
        x.deliver(3);
        Check.due("three of them", x.node(3, 1), 3);
        Check.due("HIGH", x.node(3, 4), 0);
    }

    private static void timeoutsOfOneNode() {
        Chain x = new Chain(54);
        x.crash(2);
        x.crash(3);
        Play.ticks(x, 6 + 12);
        Play.fill(x, 1, 8);
        Check.due("eight timeouts of nodes 0 and 1", x.node(1, 11), 8);
        Play.deliver(x, 1, 8);
        Check.due("count as two", x.node(1, 1), 1);
        x.restart(3);
        Play.ticks(x, 6);
        x.deliver(1);
        Check.due("a third node's", x.node(1, 1), 2);
    }

    private static void thirdTimeout() {
        Chain x = Scenes.timedOut(54);
        x.tick();
        for (int count = 1; count <= 4; count++) {
            x.deliver(2);
            Check.due("the view by " + count, x.node(2, 1), count >= 3 ? 2 : 1);
            Check.due("the timer by " + count, x.node(2, 2), count == 3 ? 12 : 11);
            if (count == 3) {
                x.tick();
            }
        }
    }

    private static void timeoutsOfTheViewBefore() {
        Chain x = Scenes.timedOut(54);
        Play.deliver(x, 0, 3);
        for (int k = 0; k < 4; k++) {
            x.disturb(1, 1);
        }
        x.deliver(1);
        Check.due("node 1 has voted in view 2", x.node(1, 5), 2);
        x.tick();
        Check.due("its timer", x.node(1, 2), 11);
        Play.deliver(x, 1, 4);
        Check.due("timeouts of view 1 leave the view", x.node(1, 1), 2);
        Check.due("and the timer", x.node(1, 2), 11);
    }

    private static void timeoutsOfALaterView() {
        Chain x = new Chain(54);
        for (int i = 1; i < 4; i++) {
            x.lie(i, 14, 0, NONE);
            Play.deliverAll(x, i);
        }
        Play.loseAll(x);
        Play.ticks(x, 6);
        Check.due("node 0 is in view 1", x.node(0, 1), 1);
        Play.deliver(x, 0, 3);
        Check.due("two of view 14 and one of view 1", x.node(0, 1), 1);
        x.deliver(0);
        Check.due("three of view 14", x.node(0, 1), 15);
        Check.due("node 0 does not lead it", x.about(1), 4);
        Check.due("VOTED", x.node(0, 5), 1);
    }

    private static void timeoutsOfTheFourthView() {
        Chain x = new Chain(54);
        x.begin();
        Play.runUntilBlock(x, 4);
        for (int i : new int[] {1, 0, 2, 3}) {
            Play.deliverAll(x, i);
        }
        Play.loseAll(x);
        Play.ticks(x, 6);
        for (int i : new int[] {0, 2, 3}) {
            Check.due("the timeout's view", x.message(i, 0, 3), 4);
            Play.deliver(x, i, 4);
            Check.due("the view of node " + i, x.node(i, 1), 5);
            Check.due("which does not lead it", x.about(1), 5);
        }
        Play.deliver(x, 1, 3);
        Check.due("the view of node 1", x.node(1, 1), 5);
        Check.due("which proposes in it", x.block(5, 0), 5);
        Check.due("on HIGH", x.block(5, 1), 3);
        Check.due("to all", x.message(2, 0, 1), 1);
    }

    private static void asksAndBlocks() {
        Check.sentence("ASK for a block that the node has: a BLOCK goes back.", TermEdgesTest::askedAndAnswered);
        // Not reached: an ASK for a block that the node has not. It goes to who sent a block on it, and a node
        // that has a block has its parent.
        Check.sentence("BLOCK b: if the node has its parent, it has b; else it asks the sender for the parent.",
                TermEdgesTest::blocksDownTheChain);
    }

    private static void askedAndAnswered() {
        Chain x = Scenes.askedForBlockOne();
        x.disturb(0, 2);
        Play.deliver(x, 0, 2);
        Check.due("an answer for each ask", x.node(1, 11), 2);
        x.deliver(1);
        Check.due("it has block 1", x.node(1, 9), 2);
        x.deliver(1);
        Check.due("and has it once", x.node(1, 9), 2);
        Check.due("it does not vote", x.node(1, 5), 0);
        Check.due("nor certify", x.node(1, 4), 0);
        Check.due("nor ask for more", x.node(0, 11), 0);
    }

    private static void blocksDownTheChain() {
        Chain x = new Chain(55);
        x.begin();
        for (int b = 1; b <= 2; b++) {
            x.disturb(3, 0);
            for (int i = 0; i < 3; i++) {
                x.deliver(i);
            }
            Play.deliver(x, 0, 3);
        }
        Play.lose(x, 0);
        x.deliver(3);
        for (int b = 2; b >= 1; b--) {
            Check.due("an ask for block " + b, x.message(0, 0, 0) * 10 + x.message(0, 0, 2), 40 + b);
            x.deliver(0);
            Check.due("block " + b, x.message(3, 0, 0) * 10 + x.message(3, 0, 2), 50 + b);
            x.deliver(3);
            Check.due("blocks that it has", x.node(3, 9), b == 2 ? 1 : 2);
        }
        Check.due("block 0 is not asked for", x.node(0, 11), 0);
    }

    private static void commits() {
        Check.sentence("when the last block of the log is below r (or is it), the blocks behind it up to r come to the log, in order",
                TermEdgesTest::severalBlocksAtOnce);
        Check.sentence("when the last block of the log is below r (or is it)", TermEdgesTest::theSameAgain);
        Check.sentence("else nothing", TermEdgesTest::anOlderOne);
        // Not reached: an r that is neither above nor below the last block of the log. Its row of certified blocks
        // would have votes of two of nodes 0 to 2, and two of these have locked the other row.
        Check.sentence("a transaction (from, to, amount, nonce) is carried out when the nonce is that of the account, and it has that much",
                TermEdgesTest::noncesAndMoney);
        // Not reached: an amount above 400, the money of all, or a nonce above 65 that would be carried out; so
        // no int wraps around in an account.
    }

    private static void severalBlocksAtOnce() {
        Chain x = new Chain(56);
        for (int t = 0; t < 3; t++) {
            x.submit(0, x.transaction(0, 1, 10, t));
        }
        x.begin();
        Play.runUntilBlock(x, 3);
        Play.loseAll(x);
        Play.ticks(x, 6);
        for (int i = 0; i < 4; i++) {
            Play.deliverAll(x, i);
        }
        Play.ticks(x, 12);
        Play.runUntilBlock(x, 6);
        Play.deliverAll(x, 2);
        Check.due("nothing is committed", x.node(2, 8), 1);
        Check.due("nor paid", x.account(2, 1, 0), 100);
        Play.runUntilBlock(x, 7);
        Play.deliverAll(x, 2);
        Check.due("three at once", x.node(2, 8), 4);
        int[] due = {0, 1, 2, 4};
        for (int k = 0; k < due.length; k++) {
            Check.due("block " + k, x.log(2, k), due[k]);
        }
        Check.due("paid in order", x.account(2, 1, 0), 130);
        Check.due("nonce by nonce", x.account(2, 0, 1), 3);
    }

    private static void theSameAgain() {
        Chain x = withALateProposal(5);
        Check.due("block 2 is the last", x.log(2, 2), 2);
        x.deliver(2);
        Check.due("the log is as it was", x.node(2, 8), 3);
    }

    private static void anOlderOne() {
        Chain x = withALateProposal(4);
        Check.due("block 2 is the last", x.log(2, 2), 2);
        x.deliver(2);
        Check.due("block 1 does not come again", x.node(2, 8), 3);
        Check.due("block 2 is the last still", x.log(2, 2), 2);
    }

    private static void noncesAndMoney() {
        int[][] given = {{0, 1, 101, 0}, {0, 1, 100, 1}, {0, 1, 100, 0}, {0, 2, 1, 1}, {0, 2, 0, 0}, {0, 2, 0, 2},
            {0, 2, 0, 1}, {2, 2, 101, 0}, {2, 2, 100, 0}, {3, 0, 1000, 0}, {3, 0, 1, 1000}, {1, 3, 200, 0}};
        int[][] due = {{100, 100, 100, 100}, {100, 100, 100, 100}, {0, 200, 100, 100}, {0, 200, 100, 100},
            {0, 200, 100, 100}, {0, 200, 100, 100}, {0, 200, 100, 100}, {0, 200, 100, 100}, {0, 200, 100, 100},
            {0, 200, 100, 100}, {0, 200, 100, 100}, {0, 0, 100, 300}};
        int[][] nonces = {{0, 0, 0, 0}, {0, 0, 0, 0}, {1, 0, 0, 0}, {1, 0, 0, 0}, {1, 0, 0, 0}, {1, 0, 0, 0},
            {2, 0, 0, 0}, {2, 0, 0, 0}, {2, 0, 1, 0}, {2, 0, 1, 0}, {2, 0, 1, 0}, {2, 1, 1, 0}};
        for (int last = 0; last < given.length; last++) {
            Chain x = new Chain(57);
            for (int t = 0; t <= last; t++) {
                x.transaction(given[t][0], given[t][1], given[t][2], given[t][3]);
                for (int i = 0; i < 4; i++) {
                    x.submit(i, t);
                }
            }
            x.begin();
            Play.runUntilBlock(x, last + 4);
            Play.deliverAll(x, 2);
            Check.due("transaction " + last + " is committed", x.block(x.log(2, last + 1), 2), last);
            for (int a = 0; a < 4; a++) {
                Check.due("money of " + a + " by " + last, x.account(2, a, 0), due[last][a]);
                Check.due("nonce of " + a + " by " + last, x.account(2, a, 1), nonces[last][a]);
            }
        }
    }

    private static void ticks() {
        Check.sentence("its timer goes down by 1; at 0", TermEdgesTest::timersRunOut);
        Check.sentence("VOTED becomes its view if that is above", TermEdgesTest::votedByTimeouts);
        Check.sentence("the span doubles, to at most 24, the timer is the span", TermEdgesTest::spansDouble);
        Check.sentence("for each node that is up, 0 to 3", TermEdgesTest::nodesThatAreDownDoNotTick);
    }

    private static void timersRunOut() {
        Chain x = new Chain(58);
        for (int k = 5; k >= 1; k--) {
            x.tick();
            for (int i = 0; i < 4; i++) {
                Check.due("the timer", x.node(i, 2), k);
                Check.due("nothing is sent", x.node(i, 11), 0);
            }
        }
        x.tick();
        for (int i = 0; i < 4; i++) {
            Check.due("the timer is the span", x.node(i, 2), 12);
            Check.due("four timeouts", x.node(i, 11), 4);
            for (int k = 0; k < 4; k++) {
                Check.due("in the order of nodes", x.message(i, k, 1), k);
            }
        }
    }

    private static void votedByTimeouts() {
        Chain x = new Chain(58);
        x.begin();
        x.deliver(1);
        Check.due("node 1 has voted in view 1", x.node(1, 5), 1);
        Play.ticks(x, 6);
        Check.due("it is the same by a timeout", x.node(1, 5), 1);
        Check.due("node 2 has not voted", x.node(2, 7), 1);
        Check.due("its VOTED is its view", x.node(2, 5), 1);
        Play.deliver(x, 1, 3);
        Check.due("node 1 is in view 2", x.node(1, 1), 2);
        Check.due("VOTED is 1", x.node(1, 5), 1);
        Play.ticks(x, 12);
        Check.due("VOTED becomes 2", x.node(1, 5), 2);
        Check.due("the view stays", x.node(1, 1), 2);
    }

    private static void spansDouble() {
        Chain x = new Chain(58);
        int[] spans = {6, 12, 24, 24, 24, 24};
        for (int k = 0; k < 5; k++) {
            Play.ticks(x, spans[k] - 1);
            Check.due("the span before", x.node(3, 3), spans[k]);
            Check.due("the timer before", x.node(3, 2), 1);
            Check.due("timeouts before", x.node(3, 7), k);
            x.tick();
            Check.due("the span", x.node(3, 3), spans[k + 1]);
            Check.due("the timer", x.node(3, 2), spans[k + 1]);
            Check.due("timeouts", x.node(3, 7), k + 1);
        }
    }

    private static void nodesThatAreDownDoNotTick() {
        Chain x = new Chain(58);
        Play.ticks(x, 5);
        x.crash(1);
        Play.ticks(x, 20);
        Check.due("no key is used", x.node(1, 7), 0);
        Check.due("VOTED", x.node(1, 5), 0);
        Check.due("two timeouts of each other one", x.node(0, 11), 6);
        x.restart(1);
        Check.due("the timer", x.node(1, 2), 6);
    }

    private static void crashesAndStarts() {
        Check.sentence("loses all but the store, also what is on the way to it", TermEdgesTest::whatACrashTakes);
        Check.sentence("HIGH is, of the parents of the blocks that it has, the one with the greatest view",
                TermEdgesTest::highAtAStart);
        Check.sentence("(0 if there is none; they are certified)", TermEdgesTest::highWithoutBlocks);
        // Not reached: "the least of several". Two certified blocks never share a view (see votesForProposals).
        Check.sentence("its view is VOTED, at least 1, timer and span are 6", TermEdgesTest::viewAtAStart);
    }

    private static void whatACrashTakes() {
        Chain x = new Chain(59);
        x.transaction(0, 1, 1, 0);
        x.submit(0, 0);
        x.begin();
        x.deliver(0);
        x.deliver(1);
        Play.deliver(x, 0, 2);
        Play.ticks(x, 6);
        Play.deliver(x, 0, 2);
        Check.due("on the way", x.node(0, 11), 2);
        x.crash(0);
        x.restart(0);
        Check.due("nothing is on the way", x.node(0, 11), 0);
        Check.due("nothing is in the pool", x.node(0, 10), 0);
        Check.due("it has block 1", x.node(0, 9), 2);
        Check.due("VOTED", x.node(0, 5), 1);
        Check.due("keys used", x.node(0, 7), 3);
        x.lieVote(0, 1);
        x.deliver(0);
        Check.due("two votes are forgotten", x.block(1, 3), 0);
        Play.ticks(x, 6);
        Check.due("its own timeout", x.message(0, 0, 1), 0);
        x.deliver(0);
        Check.due("two timeouts are forgotten", x.node(0, 1), 1);
    }

    private static void highAtAStart() {
        Chain x = Scenes.forked();
        x.deliver(2);
        x.crash(2);
        x.restart(2);
        Check.due("block 7 of view 14, not block 2", x.node(2, 4), 7);
        x.crash(0);
        x.restart(0);
        Check.due("node 0 has not block 8: block 2", x.node(0, 4), 2);
        Chain y = Scenes.withBlockTwoProposed(59);
        y.crash(1);
        y.restart(1);
        Check.due("block 1 has a parent alone", y.node(1, 4), 0);
        y.crash(0);
        y.restart(0);
        Check.due("block 2 has block 1", y.node(0, 4), 1);
    }

    private static void highWithoutBlocks() {
        Chain x = new Chain(59);
        for (int i = 0; i < 4; i++) {
            x.crash(i);
            x.restart(i);
            Check.due("HIGH", x.node(i, 4), 0);
        }
        Check.same("as new", x.all(), new Chain(59).all());
    }

    private static void viewAtAStart() {
        Chain x = new Chain(59);
        x.crash(1);
        x.restart(1);
        Check.due("VOTED 0", x.node(1, 1), 1);
        Play.ticks(x, 6);
        Check.due("the span before", x.node(1, 3), 12);
        x.crash(1);
        x.restart(1);
        Check.due("VOTED 1", x.node(1, 1), 1);
        Check.due("the span", x.node(1, 3), 6);
        Check.due("the timer", x.node(1, 2), 6);
        Play.deliver(x, 0, 3);
        x.deliver(1);
        Check.due("VOTED", x.node(1, 5), 2);
        x.crash(1);
        x.restart(1);
        Check.due("VOTED 2", x.node(1, 1), 2);
        Play.deliver(x, 2, 3);
        Check.due("node 2 is in view 2", x.node(2, 1), 2);
        x.crash(2);
        x.restart(2);
        Check.due("but has not voted in it", x.node(2, 1), 1);
        x.lie(3, 48, 0, NONE);
        Play.deliverAll(x, 3);
        x.crash(3);
        x.restart(3);
        Check.due("VOTED 48", x.node(3, 1), 48);
    }
}
