/**
 * What the document's terms say of the messages that arrive, sentence by sentence: proposals, votes, timeouts, asks,
 * blocks, and what they commit, on both sides of each limit. A line that begins with "Not reached" names a sentence
 * whose edge no run of 512 calls comes to.
 */
public final class ProtocolEdgesTest {
    private static final int NONE = QuorumChain.NONE;

    private ProtocolEdgesTest() {
    }

    public static void main(String[] args) {
        arriving();
        proposals();
        votesForProposals();
        votes();
        timeouts();
        asksAndBlocks();
        commits();
        Check.end();
    }

    private static void arriving() {
        Check.sentence("One of the kinds 1 to 3 does nothing when its signature is not good",
                ProtocolEdgesTest::spoiledProposals);
        Check.sentence("One of the kinds 1 to 3 does nothing when its signature is not good",
                ProtocolEdgesTest::spoiledVotes);
        Check.sentence("One of the kinds 1 to 3 does nothing when its signature is not good",
                ProtocolEdgesTest::spoiledTimeouts);
        // Not reached: "or (PROPOSAL) when the sender is not the leader of the block's view". Only a leader
        // proposes, and lie refuses the views that node 3 does not lead.
    }

    private static void spoiledProposals() {
        Chain x = new Chain(49);
        x.begin();
        x.disturb(1, 2);
        x.alter(1, 0, 1);
        x.deliver(1);
        Check.due("it has it not", x.node(1, 9), 1);
        Check.due("no vote", x.node(1, 5), 0);
        Check.due("nothing is sent", x.node(0, 11), 1);
        x.deliver(1);
        Check.due("a vote for its copy", x.node(1, 5), 1);
        Chain y = Scenes.blockOneIsMissing(2);
        y.alter(1, 10, 1);
        y.deliver(1);
        Check.due("a spoiled one is not a reason to ask", y.node(0, 11), 1);
        y.deliver(1);
        Check.due("a good one is", y.node(0, 11), 2);
    }

    private static void spoiledVotes() {
        Chain x = new Chain(49);
        x.begin();
        for (int i = 0; i < 3; i++) {
            x.deliver(i);
        }
        x.disturb(0, 2);
        x.alter(0, 5, 1);
        Play.deliver(x, 0, 3);
        Check.due("two good ones and a spoiled one", x.block(1, 3), 0);
        x.deliver(0);
        Check.due("with the copy", x.block(1, 3), 1);
    }

    private static void spoiledTimeouts() {
        Chain x = Scenes.timedOut(49);
        x.disturb(1, 0);
        x.disturb(1, 2);
        x.alter(1, 6, 1);
        Play.deliver(x, 1, 3);
        Check.due("two good ones and a spoiled one", x.node(1, 1), 1);
        x.deliver(1);
        Check.due("with the copy", x.node(1, 1), 2);
        Chain y = Scenes.withBlockTwoProposed(49);
        Play.lose(y, 1);
        Play.ticks(y, 6);
        y.alter(1, 0, 1);
        y.deliver(1);
        Check.due("a spoiled one brings no HIGH", y.node(1, 4), 0);
    }

    private static void proposals() {
        Check.sentence("when the node does not have its parent, it ASKS the sender for that, and nothing else",
                ProtocolEdgesTest::askAndNothingElse);
        Check.sentence("HIGH becomes p if its view is above that of HIGH", ProtocolEdgesTest::highStaysHigh);
        Check.sentence("LOCKED becomes p's parent q if its view is above that of LOCKED",
                ProtocolEdgesTest::lockedStaysHigh);
        Check.sentence("and if q's parent r is there, q's view is 1 less than p's, and r's 1 less than q's",
                ProtocolEdgesTest::withoutQOrR);
        Check.sentence("and if q's parent r is there, q's view is 1 less than p's, and r's 1 less than q's",
                ProtocolEdgesTest::threeViewsInARow);
    }

    private static void askAndNothingElse() {
        Chain x = Scenes.blockOneIsMissing(1);
        x.tick();
        x.deliver(1);
        int[] due = {1, 1, 5, 6, 0, 0, 0, 0, 1, 1, 0, 0};
        for (int what = 0; what < due.length; what++) {
            Check.due("node(1, " + what + ")", x.node(1, what), due[what]);
        }
        Check.due("the ask is for block 1", x.message(0, 1, 2), 1);
        Check.due("nothing goes to node 2", x.node(2, 11), 1);
    }

    /** Node 2 has got blocks 1 to 5, and a copy of the proposal of block b is on the way to it. */
    private static Chain withALateProposal(int b) {
        Chain x = new Chain(50);
        x.begin();
        for (int made = 1; made <= 5; made++) {
            int late = made > b ? 1 : 0;
            Play.runOthersUntilBlock(x, 2, made);
            if (late == 1) {
                x.disturb(2, 1);
            }
            if (made == b) {
                x.disturb(2, 2);
            }
            x.deliver(2);
        }
        return x;
    }

    private static void highStaysHigh() {
        for (int b = 1; b <= 5; b++) {
            Chain x = withALateProposal(b);
            Check.due("HIGH", x.node(2, 4), 4);
            Check.due("the late proposal", x.message(2, 0, 2), b);
            x.deliver(2);
            Check.due("HIGH behind it", x.node(2, 4), 4);
            Check.due("VOTED", x.node(2, 5), 5);
            Check.due("blocks that it has", x.node(2, 9), 6);
        }
    }

    private static void lockedStaysHigh() {
        for (int b = 1; b <= 5; b++) {
            Chain x = withALateProposal(b);
            Check.due("LOCKED", x.node(2, 6), 3);
            x.deliver(2);
            Check.due("LOCKED behind it", x.node(2, 6), 3);
        }
    }

    private static void withoutQOrR() {
        Chain x = new Chain(50);
        x.begin();
        int[] high = {0, 0, 1, 2, 3};
        int[] locked = {0, 0, 0, 1, 2};
        int[] logged = {1, 1, 1, 1, 2};
        for (int b = 1; b <= 4; b++) {
            Play.runOthersUntilBlock(x, 2, b);
            x.deliver(2);
            Check.due("HIGH by block " + b, x.node(2, 4), high[b]);
            Check.due("LOCKED by block " + b, x.node(2, 6), locked[b]);
            Check.due("the log by block " + b, x.node(2, 8), logged[b]);
        }
    }

    private static void threeViewsInARow() {
        Chain x = new Chain(50);
        x.begin();
        Play.runUntilBlock(x, 3);
        Play.loseAll(x);
        Play.ticks(x, 6);
        for (int i = 0; i < 4; i++) {
            Play.deliverAll(x, i);
        }
        Play.ticks(x, 12);
        int[] views = {0, 1, 2, 3, 4, 5, 6, 7};
        int[] logged = {1, 1, 1, 1, 1, 1, 1, 4};
        for (int b = 4; b <= 7; b++) {
            Play.runUntilBlock(x, b);
            Play.deliverAll(x, 2);
            Check.due("view of block " + b, x.block(b, 0), views[b]);
            Check.due("parent of block " + b, x.block(b, 1), b == 4 ? 2 : b - 1);
            Check.due("the log by block " + b, x.node(2, 8), logged[b]);
        }
        int[] due = {0, 1, 2, 4, NONE};
        for (int k = 0; k < due.length; k++) {
            Check.due("block " + k + " of the log", x.log(2, k), due[k]);
        }
    }

    private static void votesForProposals() {
        Check.sentence("If b's view is above VOTED", ProtocolEdgesTest::aboveVoted);
        Check.sentence("and not below its own view", ProtocolEdgesTest::notBelowItsView);
        Check.sentence("b is above LOCKED (LOCKED is below it)", ProtocolEdgesTest::aboveLocked);
        Check.sentence("A block is below another one when it is its parent, or that one's parent, and so on.",
                ProtocolEdgesTest::lockedItself);
        Check.sentence("or p's view is above LOCKED's (as it is now)", ProtocolEdgesTest::parentAboveLocked);
        // Not reached: a p that is not LOCKED and has its view. Both are certified, each with votes of two of
        // nodes 0 to 2, and each of these votes once in a view.
        Check.sentence("the span becomes 6, if p's view is 1 less than b's", ProtocolEdgesTest::spanOfTheNextView);
        Check.sentence("the span becomes 6, if p's view is 1 less than b's", ProtocolEdgesTest::spanOfAParentFarAbove);
    }

    private static void aboveVoted() {
        Chain x = Scenes.timedOut(51);
        x.begin();
        for (int k = 0; k < 4; k++) {
            x.disturb(1, 1);
        }
        Check.due("VOTED is 1", x.node(1, 5), 1);
        Check.due("a proposal of view 1", x.deliver(1), 1);
        Check.due("it has the block", x.node(1, 9), 2);
        Check.due("no vote", x.node(1, 7), 1);
        Play.deliver(x, 0, 3);
        for (int k = 0; k < 4; k++) {
            x.disturb(1, 1);
        }
        Check.due("view of block 2", x.block(2, 0), 2);
        Check.due("a proposal of view 2", x.deliver(1), 1);
        Check.due("a vote", x.node(1, 7), 2);
        Check.due("VOTED is 2", x.node(1, 5), 2);
        Check.due("the view", x.node(1, 1), 2);
    }

    private static void notBelowItsView() {
        Chain x = new Chain(51);
        Play.ticks(x, 5);
        x.crash(1);
        x.restart(1);
        x.begin();
        x.tick();
        x.disturb(1, 1);
        Play.deliver(x, 1, 3);
        Check.due("timeouts brought view 2", x.node(1, 1), 2);
        Check.due("VOTED is 0", x.node(1, 5), 0);
        Check.due("a proposal of view 1", x.deliver(1), 1);
        Check.due("it has the block", x.node(1, 9), 2);
        Check.due("no vote", x.node(1, 7), 0);
        Check.due("VOTED is 0 still", x.node(1, 5), 0);
        Play.deliver(x, 0, 4);
        Check.due("view of block 2", x.block(2, 0), 2);
        Check.due("a proposal of view 2", x.deliver(1), 1);
        Check.due("a vote", x.node(1, 7), 1);
        Check.due("VOTED is 2", x.node(1, 5), 2);
    }

    private static void aboveLocked() {
        Chain x = new Chain(51);
        x.begin();
        Play.runUntilBlock(x, 3);
        Play.deliverAll(x, 1);
        Play.deliverAll(x, 3);
        Check.due("LOCKED is block 1", x.node(1, 6), 1);
        x.lie(1, 13, 0, NONE);
        x.deliver(1);
        Check.due("a block beside it", x.node(1, 5), 3);
        x.lie(1, 13, 1, NONE);
        x.deliver(1);
        Check.due("a block on it", x.node(1, 5), 13);
        x.lie(1, 14, 2, NONE);
        x.deliver(1);
        Check.due("a block two above it", x.node(1, 5), 14);
    }

    private static void lockedItself() {
        Chain x = Scenes.highFarAboveTheView(51);
        x.begin();
        Chain y = Scenes.highFarAboveTheView(51);
        x.disturb(0, 1);
        x.deliver(0);
        Check.due("begin's block on block 5 locks block 4", x.node(0, 6), 4);
        Check.due("the view stays", x.node(0, 1), 1);
        Check.due("a proposal of block 4", x.deliver(0), 1);
        Check.due("the view behind it", x.node(0, 1), 1);
        Check.due("VOTED", x.node(0, 5), 1);
        Check.due("keys used: no vote", x.node(0, 7), 2);
        y.deliver(0);
        Check.due("VOTED by the same proposal when LOCKED is block 0", y.node(0, 5), 14);
    }

    private static void parentAboveLocked() {
        Chain x = Scenes.lockedBesideANextView();
        Check.due("LOCKED is block 1", x.node(2, 6), 1);
        Check.due("its view", x.block(1, 0), 1);
        Check.due("block 2 is beside it", x.block(2, 1), 0);
        Check.due("in the next view", x.block(2, 0), 2);
        Check.due("and certified", x.block(2, 3), 1);
        Check.due("VOTED", x.node(2, 5), 15);
        x.lie(2, 16, 0, NONE);
        x.deliver(2);
        Check.due("a parent in the view before LOCKED's", x.node(2, 5), 15);
        x.lie(2, 16, 2, NONE);
        x.deliver(2);
        Check.due("a parent in the view behind LOCKED's", x.node(2, 5), 16);
        Check.due("LOCKED stays", x.node(2, 6), 1);
    }

    private static void spanOfTheNextView() {
        Chain x = Scenes.timedOut(52);
        for (int i = 0; i < 4; i++) {
            Play.deliver(x, i, 4);
        }
        Check.due("block 1 has view 2 and parent 0", x.block(1, 0) * 10 + x.block(1, 1), 20);
        x.tick();
        x.deliver(1);
        Check.due("the span when the parent is two below", x.node(1, 3), 12);
        Check.due("the timer", x.node(1, 2), 12);
        for (int i : new int[] {0, 2}) {
            x.deliver(i);
        }
        Play.deliver(x, 0, 3);
        Check.due("block 2 has view 3 and parent 1", x.block(2, 0) * 10 + x.block(2, 1), 31);
        x.tick();
        x.deliver(1);
        Check.due("the span when it is one below", x.node(1, 3), 6);
        Check.due("the timer is the span", x.node(1, 2), 6);
        Check.due("the span of one that has not got it", x.node(2, 3), 12);
    }

    private static void spanOfAParentFarAbove() {
        Chain x = Scenes.highFarAboveTheViewWithTimeouts(52);
        Play.deliver(x, 0, 3);
        Check.due("three timeouts of view 1 bring block 7 of view 2", x.block(7, 0), 2);
        Check.due("on block 5", x.block(7, 1), 5);
        Check.due("of view 15", x.block(5, 0), 15);
        x.disturb(0, 1);
        x.disturb(0, 1);
        x.tick();
        x.deliver(0);
        Check.due("VOTED", x.node(0, 5), 2);
        Check.due("the span", x.node(0, 3), 24);
        Check.due("the timer is the span", x.node(0, 2), 24);
    }

    private static void votes() {
        Check.sentence("when the node has b and is the leader of the view behind b's",
                ProtocolEdgesTest::votesForWhatTheLeaderHasNot);
        // Not reached: three votes at a node that is not "the leader of the view behind b's". Votes go to the
        // leader, and those of a lie, which may go elsewhere, are all of node 3.
        Check.sentence("it is kept (one for each node and block)", ProtocolEdgesTest::votesOfOneNode);
        Check.sentence("it is kept (one for each node and block)", ProtocolEdgesTest::votesForTwoBlocks);
        Check.sentence("if b's view is not below its view - 1", ProtocolEdgesTest::votesInTheViewBehind);
        Check.sentence("if b's view is not below its view - 1", ProtocolEdgesTest::votesTwoViewsLate);
        Check.sentence("and b is above HIGH in view", ProtocolEdgesTest::votesForABlockBelowHigh);
        // Not reached: "b is above HIGH in view" with b in HIGH's view. Two certified blocks never share a view
        // (see votesForProposals), b is not HIGH anywhere before its third vote has come, and to count three votes
        // again behind a crash would take two more of nodes 0 to 2.
    }

    private static void votesForWhatTheLeaderHasNot() {
        Chain x = new Chain(53);
        x.begin();
        Play.runUntilBlock(x, 4);
        Play.lose(x, 1);
        for (int i : new int[] {0, 2, 3}) {
            Play.deliverAll(x, i);
        }
        Check.due("three votes for block 4 are on the way to node 1", x.node(1, 11), 3);
        Play.deliver(x, 1, 3);
        Check.due("which has it not", x.block(4, 4), 13);
        Check.due("and does not keep them", x.block(4, 3), 0);
        Check.due("nor enters view 5", x.node(1, 1), 3);
        Check.due("nor makes a block", x.about(1), 5);
    }

    private static void votesOfOneNode() {
        Chain x = new Chain(53);
        x.begin();
        x.deliver(0);
        for (int k = 0; k < 5; k++) {
            x.lieVote(0, 1);
        }
        x.disturb(0, 2);
        Play.deliver(x, 0, 7);
        Check.due("one of node 0, five of node 3, and a copy", x.block(1, 3), 0);
        x.deliver(1);
        x.deliver(0);
        Check.due("a third node's", x.block(1, 3), 1);
    }

    private static void votesForTwoBlocks() {
        Chain x = Scenes.timedOut(53);
        x.begin();
        Play.deliver(x, 0, 5);
        Check.due("blocks 1 and 2 are beside one another", x.block(1, 1) + x.block(2, 1), 0);
        Play.lose(x, 0);
        for (int b = 1; b <= 2; b++) {
            x.lieVote(0, b);
            x.deliver(0);
        }
        for (int i = 1; i < 3; i++) {
            Play.deliver(x, i, 6);
        }
        Check.due("votes for block 2", x.node(0, 11), 2);
        x.deliver(0);
        Check.due("two for block 2, one for block 1", x.block(2, 3), 0);
        x.deliver(0);
        Check.due("three for block 2", x.block(2, 3), 1);
        Check.due("one for block 1", x.block(1, 3), 0);
    }

    /** Three votes for block 1 are on the way to node 0, which timeouts have brought to view v. */
    private static Chain votesBehindTimeouts(int v) {
        Chain x = new Chain(53);
        x.begin();
        for (int i = 0; i < 3; i++) {
            x.deliver(i);
        }
        Play.lose(x, 3);
        for (int view = 1; view < v; view++) {
            Play.ticks(x, view == 1 ? 6 : 12);
            for (int k = 0; k < 3; k++) {
                x.disturb(0, 1);
            }
            Play.deliver(x, 0, 4);
            for (int i = 1; i < 4; i++) {
                Play.deliver(x, i, 4);
                Play.lose(x, i);
            }
            for (int k = 0; k < 3; k++) {
                x.disturb(0, 1);
            }
            x.disturb(0, 0);
        }
        return x;
    }

    private static void votesInTheViewBehind() {
        Chain x = votesBehindTimeouts(2);
        Check.due("node 0 is in view 2", x.node(0, 1), 2);
        x.tick();
        Play.deliver(x, 0, 3);
        Check.due("block 1 is certified", x.block(1, 3), 1);
        Check.due("HIGH", x.node(0, 4), 1);
        Check.due("the view", x.node(0, 1), 2);
        Check.due("entered anew", x.node(0, 2), 12);
        Check.due("a block on block 1", x.block(3, 1), 1);
        Check.due("of view 2 again", x.block(3, 0), 2);
    }

    private static void votesTwoViewsLate() {
        Chain x = votesBehindTimeouts(3);
        Check.due("node 0 is in view 3", x.node(0, 1), 3);
        int blocks = x.about(1);
        x.tick();
        int timer = x.node(0, 2);
        Play.deliver(x, 0, 3);
        Check.due("block 1 is certified", x.block(1, 3), 1);
        Check.due("HIGH is as it was", x.node(0, 4), 0);
        Check.due("so is the view", x.node(0, 1), 3);
        Check.due("so is the timer", x.node(0, 2), timer);
        Check.due("no new block", x.about(1), blocks);
    }

    /** Loses the proposals to node 0, which stand behind so many votes that are kept. */
    private static void loseBehindVotes(Chain x, int votes) {
        int others = x.node(0, 11) - votes;
        bringBehindVotesFirst(x, votes);
        for (int k = 0; k < others; k++) {
            x.disturb(0, 0);
        }
    }

    private static void bringBehindVotesFirst(Chain x, int votes) {
        for (int k = 0; k < votes; k++) {
            x.disturb(0, 1);
        }
    }

    private static void votesForABlockBelowHigh() {
        Chain x = new Chain(21);
        x.begin();
        for (int i = 0; i < 3; i++) {
            x.deliver(i);
        }
        Play.lose(x, 3);
        for (int i = 1; i < 4; i++) {
            x.lie(i, 13, 0, NONE);
            Play.deliverAll(x, i);
        }
        Play.ticks(x, 6);
        loseBehindVotes(x, 3);
        Play.deliver(x, 3, 4);
        Play.deliver(x, 1, 5);
        Play.deliver(x, 2, 5);
        Play.deliver(x, 3, 4);
        Check.due("block 5 of view 14 is certified", x.block(5, 3), 1);
        bringBehindVotesFirst(x, 3);
        x.disturb(0, 0);
        x.deliver(0);
        Play.deliver(x, 3, 2);
        bringBehindVotesFirst(x, 3);
        x.deliver(0);
        Check.due("node 0 was sent block 5", x.block(5, 4), 15);
        Play.ticks(x, 6);
        bringBehindVotesFirst(x, 3);
        x.deliver(0);
        Check.due("a timeout has brought HIGH", x.node(0, 4), 5);
        Check.due("node 0 is in view 1", x.node(0, 1), 1);
        Play.deliver(x, 0, 3);
        Check.due("block 1 is certified", x.block(1, 3), 1);
        Check.due("HIGH stays", x.node(0, 4), 5);
        Check.due("so does the view", x.node(0, 1), 1);
        Check.due("no new block", x.about(1), 7);
    }

    private static void timeouts() {
        Check.sentence("when the node has h, and h is certified, HIGH becomes h if its view is above",
                ProtocolEdgesTest::timeoutsBringHigh);
        // Not reached: "and h is certified". h is the sender's HIGH, which is certified.
        Check.sentence("HIGH becomes h if its view is above", ProtocolEdgesTest::timeoutsOfAnEarlierViewBringHigh);
        Check.sentence("It is kept (one for each node and view).", ProtocolEdgesTest::timeoutsOfOneNode);
        Check.sentence("It is kept (one for each node and view).", ProtocolEdgesTest::timeoutsWithABlockThatItHasNot);
        Check.sentence("When the third one for v comes", ProtocolEdgesTest::thirdTimeout);
        Check.sentence("and v is not below its view", ProtocolEdgesTest::timeoutsOfTheViewBefore);
        Check.sentence("and v is not below its view", ProtocolEdgesTest::timeoutsOfALaterView);
        Check.sentence("it enters view v + 1, and proposes, if it is the leader of that",
                ProtocolEdgesTest::timeoutsOfTheFourthView);
    }

    private static void timeoutsBringHigh() {
        Chain x = Scenes.lockedAtNodeTwo();
        Play.ticks(x, 6);
        Check.due("node 0's HIGH is block 2", x.message(3, 0, 2), 2);
        x.deliver(3);
        Check.due("which node 3 has not", x.node(3, 4), 0);
        x.deliver(1);
        Check.due("which node 1 has", x.node(1, 4), 2);
        x.deliver(1);
        Check.due("node 1's own was block 1", x.node(1, 4), 2);
        Play.deliver(x, 1, 2);
        Check.due("node 3's was block 0", x.node(1, 4), 2);
    }

    private static void timeoutsOfAnEarlierViewBringHigh() {
        Chain x = Scenes.withBlockTwoProposed(54);
        Play.lose(x, 1);
        x.lie(1, 13, 0, NONE);
        x.deliver(1);
        Check.due("node 1 is in view 13", x.node(1, 1), 13);
        Check.due("its HIGH", x.node(1, 4), 0);
        Play.ticks(x, 6);
        Check.due("node 0's timeout is of view 2, with block 1", x.message(1, 0, 3) * 10 + x.message(1, 0, 2), 21);
        x.deliver(1);
        Check.due("its HIGH then", x.node(1, 4), 1);
        Check.due("its view", x.node(1, 1), 13);
    }

    private static void timeoutsWithABlockThatItHasNot() {
        Chain x = new Chain(54);
        x.begin();
        for (int b = 1; b <= 2; b++) {
            x.disturb(3, 0);
            for (int i = 0; i < 3; i++) {
                x.deliver(i);
            }
            Play.deliver(x, 0, b == 1 ? 3 : 0);
        }
        Play.ticks(x, 6);
        for (int k = 0; k < 3; k++) {
            Check.due("a timeout of view 2 with block 1", x.message(3, k, 3) * 10 + x.message(3, k, 2), 21);
        }
        Play.deliver(x, 3, 2);
        Check.due("two of them", x.node(3, 1), 1);
        x.deliver(3);
        Check.due("three of them", x.node(3, 1), 3);
        Check.due("HIGH", x.node(3, 4), 0);
    }

    private static void timeoutsOfOneNode() {
        Chain x = new Chain(54);
        x.crash(2);
        x.crash(3);
        Play.ticks(x, 6 + 12);
        Play.fill(x, 1, 8);
        Check.due("eight timeouts of nodes 0 and 1", x.node(1, 11), 8);
        Play.deliver(x, 1, 8);
        Check.due("count as two", x.node(1, 1), 1);
        x.restart(3);
        Play.ticks(x, 6);
        x.deliver(1);
        Check.due("a third node's", x.node(1, 1), 2);
    }

    private static void thirdTimeout() {
        Chain x = Scenes.timedOut(54);
        x.tick();
        for (int count = 1; count <= 4; count++) {
            x.deliver(2);
            Check.due("the view by " + count, x.node(2, 1), count >= 3 ? 2 : 1);
            Check.due("the timer by " + count, x.node(2, 2), count == 3 ? 12 : 11);
            if (count == 3) {
                x.tick();
            }
        }
    }

    private static void timeoutsOfTheViewBefore() {
        Chain x = Scenes.timedOut(54);
        Play.deliver(x, 0, 3);
        for (int k = 0; k < 4; k++) {
            x.disturb(1, 1);
        }
        x.deliver(1);
        Check.due("node 1 has voted in view 2", x.node(1, 5), 2);
        x.tick();
        Check.due("its timer", x.node(1, 2), 11);
        Play.deliver(x, 1, 4);
        Check.due("timeouts of view 1 leave the view", x.node(1, 1), 2);
        Check.due("and the timer", x.node(1, 2), 11);
    }

    private static void timeoutsOfALaterView() {
        Chain x = new Chain(54);
        for (int i = 1; i < 4; i++) {
            x.lie(i, 14, 0, NONE);
            Play.deliverAll(x, i);
        }
        Play.loseAll(x);
        Play.ticks(x, 6);
        Check.due("node 0 is in view 1", x.node(0, 1), 1);
        Play.deliver(x, 0, 3);
        Check.due("two of view 14 and one of view 1", x.node(0, 1), 1);
        x.deliver(0);
        Check.due("three of view 14", x.node(0, 1), 15);
        Check.due("node 0 does not lead it", x.about(1), 4);
        Check.due("VOTED", x.node(0, 5), 1);
    }

    private static void timeoutsOfTheFourthView() {
        Chain x = new Chain(54);
        x.begin();
        Play.runUntilBlock(x, 4);
        for (int i : new int[] {1, 0, 2, 3}) {
            Play.deliverAll(x, i);
        }
        Play.loseAll(x);
        Play.ticks(x, 6);
        for (int i : new int[] {0, 2, 3}) {
            Check.due("the timeout's view", x.message(i, 0, 3), 4);
            Play.deliver(x, i, 4);
            Check.due("the view of node " + i, x.node(i, 1), 5);
            Check.due("which does not lead it", x.about(1), 5);
        }
        Play.deliver(x, 1, 3);
        Check.due("the view of node 1", x.node(1, 1), 5);
        Check.due("which proposes in it", x.block(5, 0), 5);
        Check.due("on HIGH", x.block(5, 1), 3);
        Check.due("to all", x.message(2, 0, 1), 1);
    }

    private static void asksAndBlocks() {
        Check.sentence("ASK for a block that the node has: a BLOCK goes back.", ProtocolEdgesTest::askedAndAnswered);
        // Not reached: an ASK for a block that the node has not. It goes to who sent a block on it and has that, and
        // a node that has a block has its parent.
        Check.sentence("BLOCK b: if the node has its parent, it has b; else it asks the sender for the parent.",
                ProtocolEdgesTest::blocksDownTheChain);
        Check.sentence("BLOCK b: if the node has its parent, it has b", ProtocolEdgesTest::blocksAreNotProposals);
    }

    private static void askedAndAnswered() {
        Chain x = Scenes.askedForBlockOne();
        x.disturb(0, 2);
        Play.deliver(x, 0, 2);
        Check.due("an answer for each ask", x.node(1, 11), 2);
        x.deliver(1);
        Check.due("it has block 1", x.node(1, 9), 2);
        x.deliver(1);
        Check.due("and has it once", x.node(1, 9), 2);
        Check.due("it does not vote", x.node(1, 5), 0);
        Check.due("nor certify", x.node(1, 4), 0);
        Check.due("nor ask for more", x.node(0, 11), 0);
    }

    private static void blocksDownTheChain() {
        Chain x = new Chain(55);
        x.begin();
        for (int b = 1; b <= 2; b++) {
            x.disturb(3, 0);
            for (int i = 0; i < 3; i++) {
                x.deliver(i);
            }
            Play.deliver(x, 0, 3);
        }
        Play.lose(x, 0);
        x.deliver(3);
        for (int b = 2; b >= 1; b--) {
            Check.due("an ask for block " + b, x.message(0, 0, 0) * 10 + x.message(0, 0, 2), 40 + b);
            x.deliver(0);
            Check.due("block " + b, x.message(3, 0, 0) * 10 + x.message(3, 0, 2), 50 + b);
            x.deliver(3);
            Check.due("blocks that it has", x.node(3, 9), b == 2 ? 1 : 2);
        }
        Check.due("block 0 is not asked for", x.node(0, 11), 0);
    }

    private static void blocksAreNotProposals() {
        Chain x = new Chain(55);
        x.begin();
        for (int b = 1; b <= 2; b++) {
            x.disturb(3, 0);
            for (int i = 0; i < 3; i++) {
                x.deliver(i);
            }
            Play.deliver(x, 0, 3);
        }
        Play.lose(x, 0);
        x.deliver(3);
        x.deliver(0);
        x.disturb(3, 2);
        x.deliver(3);
        x.deliver(0);
        x.disturb(3, 1);
        Play.deliver(x, 3, 2);
        Check.due("it has blocks 1 and 2", x.node(3, 9), 3);
        Check.due("HIGH", x.node(3, 4), 0);
        Check.due("the view", x.node(3, 1), 1);
        Check.due("VOTED", x.node(3, 5), 0);
        Check.due("no key is used", x.node(3, 7), 0);
        Check.due("nothing is sent", x.node(0, 11), 0);
    }

    private static void commits() {
        Check.sentence("the blocks behind it up to r come to the log, in order, and their transactions are carried out",
                ProtocolEdgesTest::severalBlocksAtOnce);
        Check.sentence("when the last block of the log is below r (or is it)", ProtocolEdgesTest::theSameAgain);
        Check.sentence("else nothing", ProtocolEdgesTest::anOlderOne);
        // Not reached: an r that is neither above nor below the last block of the log. Its row of certified blocks
        // would have votes of two of nodes 0 to 2, and two of these have locked the other row.
        Check.sentence("is carried out when the nonce is that of the account, and it has that much",
                ProtocolEdgesTest::noncesAndMoney);
        // Not reached: an amount above 400, the money of all, or a nonce above 65 that would be carried out; so
        // no int wraps around in an account.
    }

    private static void severalBlocksAtOnce() {
        Chain x = new Chain(56);
        for (int t = 0; t < 3; t++) {
            x.submit(0, x.transaction(0, 1, 10, t));
        }
        x.begin();
        Play.runUntilBlock(x, 3);
        Play.loseAll(x);
        Play.ticks(x, 6);
        for (int i = 0; i < 4; i++) {
            Play.deliverAll(x, i);
        }
        Play.ticks(x, 12);
        Play.runUntilBlock(x, 6);
        Play.deliverAll(x, 2);
        Check.due("nothing is committed", x.node(2, 8), 1);
        Check.due("nor paid", x.account(2, 1, 0), 100);
        Play.runUntilBlock(x, 7);
        Play.deliverAll(x, 2);
        Check.due("three at once", x.node(2, 8), 4);
        int[] due = {0, 1, 2, 4};
        for (int k = 0; k < due.length; k++) {
            Check.due("block " + k, x.log(2, k), due[k]);
        }
        Check.due("paid in order", x.account(2, 1, 0), 130);
        Check.due("nonce by nonce", x.account(2, 0, 1), 3);
    }

    private static void theSameAgain() {
        Chain x = withALateProposal(5);
        Check.due("block 2 is the last", x.log(2, 2), 2);
        x.deliver(2);
        Check.due("the log is as it was", x.node(2, 8), 3);
    }

    private static void anOlderOne() {
        Chain x = withALateProposal(4);
        Check.due("block 2 is the last", x.log(2, 2), 2);
        x.deliver(2);
        Check.due("block 1 does not come again", x.node(2, 8), 3);
        Check.due("block 2 is the last still", x.log(2, 2), 2);
    }

    private static void noncesAndMoney() {
        int[][] given = {{0, 1, 101, 0}, {0, 1, 100, 1}, {0, 1, 100, 0}, {0, 2, 1, 1}, {0, 2, 0, 0}, {0, 2, 0, 2},
            {0, 2, 0, 1}, {2, 2, 101, 0}, {2, 2, 100, 0}, {3, 0, 1000, 0}, {3, 0, 1, 1000}, {1, 3, 200, 0}};
        int[][] due = {{100, 100, 100, 100}, {100, 100, 100, 100}, {0, 200, 100, 100}, {0, 200, 100, 100},
            {0, 200, 100, 100}, {0, 200, 100, 100}, {0, 200, 100, 100}, {0, 200, 100, 100}, {0, 200, 100, 100},
            {0, 200, 100, 100}, {0, 200, 100, 100}, {0, 0, 100, 300}};
        int[][] nonces = {{0, 0, 0, 0}, {0, 0, 0, 0}, {1, 0, 0, 0}, {1, 0, 0, 0}, {1, 0, 0, 0}, {1, 0, 0, 0},
            {2, 0, 0, 0}, {2, 0, 0, 0}, {2, 0, 1, 0}, {2, 0, 1, 0}, {2, 0, 1, 0}, {2, 1, 1, 0}};
        for (int last = 0; last < given.length; last++) {
            Chain x = new Chain(57);
            for (int t = 0; t <= last; t++) {
                x.transaction(given[t][0], given[t][1], given[t][2], given[t][3]);
                for (int i = 0; i < 4; i++) {
                    x.submit(i, t);
                }
            }
            x.begin();
            Play.runUntilBlock(x, last + 4);
            Play.deliverAll(x, 2);
            Check.due("transaction " + last + " is committed", x.block(x.log(2, last + 1), 2), last);
            for (int a = 0; a < 4; a++) {
                Check.due("money of " + a + " by " + last, x.account(2, a, 0), due[last][a]);
                Check.due("nonce of " + a + " by " + last, x.account(2, a, 1), nonces[last][a]);
            }
        }
    }
}
