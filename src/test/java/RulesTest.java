/** What the document's terms say of votes, locks, commits, timeouts, crashes, asking and keys. */
public final class RulesTest {
    private static final int NONE = QuorumChain.NONE;

    private RulesTest() {
    }

    public static void main(String[] args) {
        leadersChangeEveryFourViews();
        aProposalIsVotedForOnce();
        threeVotesCertify();
        votesAreCountedOncePerNode();
        votesCountOnlyAtTheNextLeader();
        votesAreForgottenInACrash();
        lateVotesCertifyAndNoMore();
        votesForTheViewBeforeStillCount();
        threeInARowCommit();
        brokenRowsDoNotCommit();
        committingWaitsForThreeViewsInARow();
        transactionsAreCarriedOutInOrder();
        transactionsAreTakenOnceInAChain();
        aLockHoldsTheVote();
        aHigherCertificateOpensTheLock();
        spansDoubleAndFallBack();
        threeTimeoutsChangeTheView();
        timeoutsAreCountedOncePerNode();
        timeoutsBringHigh();
        timeoutsAreForgottenInACrash();
        missingBlocksAreAskedFor();
        askingGoesDownTheChain();
        messagesToItselfDoNotSpoilTheArrivedOne();
        withoutKeysNothingIsSent();
        startTakesTheHighestParent();
        Check.end();
    }

    private static void leadersChangeEveryFourViews() {
        Chain x = new Chain(9);
        x.begin();
        Play.runUntilBlock(x, 13);
        for (int b = 1; b <= 13; b++) {
            Check.due("view of block " + b, x.block(b, 0), b);
            Check.due("parent of block " + b, x.block(b, 1), b - 1);
        }
        int last = x.node(3, 11) - 1;
        Check.due("the proposer of view 13", x.message(3, last, 1), 3);
        Check.due("its block", x.message(3, last, 2), 13);
        Check.due("proposals and votes of node 0 in views 1 to 12", x.node(0, 7), 16);
    }

    private static void aProposalIsVotedForOnce() {
        Chain x = new Chain(3);
        x.begin();
        x.disturb(1, 2);
        x.tick();
        x.deliver(1);
        Check.due("VOTED", x.node(1, 5), 1);
        Check.due("the timer is the span", x.node(1, 2), 6);
        Check.due("its key", x.node(1, 7), 1);
        Check.due("the vote's kind", x.message(0, 1, 0), 2);
        Check.due("the vote's sender", x.message(0, 1, 1), 1);
        x.tick();
        x.deliver(1);
        Check.due("no vote for the copy", x.node(0, 11), 2);
        Check.due("no new view", x.node(1, 2), 5);
        Play.ticks(x, 5);
        Check.due("VOTED is its view already", x.node(1, 5), 1);
        x.disturb(2, 1);
        Check.due("node 2 timed out in view 1", x.node(2, 5), 1);
        Play.deliverAll(x, 2);
        Check.due("and does not vote in it", x.node(2, 7), 1);
        Check.due("but has the block", x.node(2, 9), 2);
    }

    private static void threeVotesCertify() {
        Chain x = new Chain(3);
        x.begin();
        for (int i = 0; i < 4; i++) {
            x.deliver(i);
        }
        x.tick();
        Play.deliver(x, 0, 2);
        Check.due("two votes", x.block(1, 3), 0);
        Check.due("no new view", x.node(0, 1), 1);
        x.deliver(0);
        Check.due("three votes", x.block(1, 3), 1);
        Check.due("HIGH", x.node(0, 4), 1);
        Check.due("the view", x.node(0, 1), 2);
        Check.due("the timer", x.node(0, 2), 6);
        Check.due("a block", x.about(1), 3);
        Check.due("VOTED is not touched", x.node(0, 5), 1);
        x.deliver(0);
        Check.due("the fourth vote does nothing", x.about(1), 3);
    }

    private static void votesAreCountedOncePerNode() {
        Chain x = new Chain(3);
        x.begin();
        x.deliver(0);
        Play.deliver(x, 1, 1);
        x.disturb(0, 2);
        x.disturb(0, 2);
        Play.deliverAll(x, 0);
        Check.due("a vote and copies of it, and one more", x.block(1, 3), 0);
        x.lieVote(0, 1);
        x.lieVote(0, 1);
        x.deliver(0);
        Check.due("the third node's", x.block(1, 3), 1);
        Check.due("blocks", x.about(1), 3);
        Play.deliverAll(x, 0);
        Check.due("no third block", x.about(1), 3);
    }

    private static void votesCountOnlyAtTheNextLeader() {
        Chain x = new Chain(3);
        x.begin();
        for (int i = 1; i < 4; i++) {
            x.deliver(i);
        }
        Play.lose(x, 0);
        for (int k = 0; k < 3; k++) {
            x.lieVote(1, 1);
        }
        Play.deliverAll(x, 1);
        Check.due("votes to one who does not lead", x.block(1, 3), 0);
        Chain y = new Chain(3);
        y.begin();
        Play.runUntilBlock(y, 4);
        Play.lose(y, 1);
        for (int i : new int[] {0, 2, 3}) {
            Play.deliverAll(y, i);
        }
        Check.due("three votes are on the way to the leader of view 5", y.node(1, 11), 3);
        Play.deliverAll(y, 1);
        Check.due("who does not have block 4", y.block(4, 4), 13);
        Check.due("and does not keep them", y.block(4, 3), 0);
        Check.due("nor enters view 5", y.node(1, 1), 3);
    }

    private static void votesAreForgottenInACrash() {
        Chain x = new Chain(3);
        x.begin();
        x.deliver(0);
        x.deliver(1);
        Play.deliver(x, 0, 2);
        x.crash(0);
        x.restart(0);
        x.lieVote(0, 1);
        x.deliver(0);
        Check.due("one vote since the start", x.block(1, 3), 0);
        Check.due("the block is kept", x.node(0, 9), 2);
    }

    /** Block 1 has three votes on the way to node 0, which timeouts have brought to view v. */
    private static Chain votesBehindTimeouts(int v) {
        Chain x = new Chain(3);
        x.begin();
        for (int i = 0; i < 3; i++) {
            x.deliver(i);
        }
        for (int view = 1; view < v; view++) {
            Play.ticks(x, view == 1 ? 6 : 12);
            for (int k = 0; k < 3; k++) {
                x.disturb(0, 1);
            }
            Play.deliver(x, 0, 4);
            for (int i = 1; i < 4; i++) {
                Play.deliver(x, i, x.node(i, 11) - 1);
                Play.lose(x, i);
            }
            for (int k = 0; k < 3; k++) {
                x.disturb(0, 1);
            }
            x.disturb(0, 0);
        }
        return x;
    }

    private static void votesForTheViewBeforeStillCount() {
        Chain x = votesBehindTimeouts(2);
        Check.due("node 0's view", x.node(0, 1), 2);
        Check.due("its block for view 2", x.block(2, 1), 0);
        Check.due("three votes are on the way", x.node(0, 11), 3);
        x.tick();
        Play.deliver(x, 0, 3);
        Check.due("block 1 is certified", x.block(1, 3), 1);
        Check.due("HIGH", x.node(0, 4), 1);
        Check.due("still view 2", x.node(0, 1), 2);
        Check.due("entered anew", x.node(0, 2), x.node(0, 3));
        Check.due("a second block for view 2", x.block(3, 0), 2);
        Check.due("on block 1", x.block(3, 1), 1);
    }

    private static void lateVotesCertifyAndNoMore() {
        Chain x = votesBehindTimeouts(3);
        Check.due("node 0's view", x.node(0, 1), 3);
        Check.due("blocks", x.about(1), 4);
        Play.deliver(x, 0, 3);
        Check.due("block 1 is certified", x.block(1, 3), 1);
        Check.due("HIGH is as it was", x.node(0, 4), 0);
        Check.due("so is the view", x.node(0, 1), 3);
        Check.due("no new block", x.about(1), 4);
    }

    private static void threeInARowCommit() {
        Chain x = new Chain(11);
        x.begin();
        Play.runUntilBlock(x, 3);
        Play.deliver(x, 2, 1);
        Check.due("block 3 commits nothing new", x.node(2, 8), 1);
        Check.due("it locks block 1", x.node(2, 6), 1);
        Check.due("HIGH is block 2", x.node(2, 4), 2);
        Play.runUntilBlock(x, 4);
        Play.deliverAll(x, 2);
        Check.due("block 4 commits block 1", x.node(2, 8), 2);
        Check.due("the log", x.log(2, 1), 1);
        Check.due("it locks block 2", x.node(2, 6), 2);
        Play.runUntilBlock(x, 9);
        Play.deliverAll(x, 2);
        Check.due("block 9 commits block 6", x.node(2, 8), 7);
        for (int k = 0; k < 7; k++) {
            Check.due("the log", x.log(2, k), k);
        }
    }

    private static void brokenRowsDoNotCommit() {
        Chain x = new Chain(11);
        x.begin();
        Play.runUntilBlock(x, 3);
        Play.deliverAll(x, 3);
        x.lie(1, 13, 2, NONE);
        Play.deliverAll(x, 1);
        Check.due("a block on block 2", x.node(1, 1), 13);
        Check.due("locks block 1", x.node(1, 6), 1);
        Check.due("and commits block 0 again", x.node(1, 8), 1);
    }

    private static void committingWaitsForThreeViewsInARow() {
        Chain x = new Chain(11);
        x.begin();
        Play.runUntilBlock(x, 3);
        Play.loseAll(x);
        Play.ticks(x, 6);
        for (int i = 0; i < 4; i++) {
            Play.deliverAll(x, i);
        }
        Play.ticks(x, 12);
        Play.runUntilBlock(x, 5);
        Play.deliverAll(x, 2);
        Check.due("view of block 4", x.block(4, 0), 4);
        Check.due("parent of block 4", x.block(4, 1), 2);
        Check.due("parent of block 5", x.block(5, 1), 4);
        Check.due("views 1, 2 and 4", x.node(2, 8), 1);
        Play.runUntilBlock(x, 6);
        Play.deliverAll(x, 2);
        Check.due("views 2, 4 and 5", x.node(2, 8), 1);
        Play.runUntilBlock(x, 7);
        Play.deliverAll(x, 2);
        int[] due = {0, 1, 2, 4, NONE};
        for (int k = 0; k < due.length; k++) {
            Check.due("views 4, 5 and 6: log " + k, x.log(2, k), due[k]);
        }
    }

    private static void transactionsAreCarriedOutInOrder() {
        Chain x = new Chain(12);
        int[][] given = {{0, 1, 70, 0}, {1, 2, 170, 0}, {0, 3, 31, 1}, {0, 3, 5, 0}, {0, 3, 30, 1},
            {3, 3, 130, 0}, {3, 3, 131, 1}, {2, 0, 0, 0}, {2, 1, 270, 1}};
        for (int[] t : given) {
            for (int i = 0; i < 4; i++) {
                x.submit(i, i == 0 ? x.transaction(t[0], t[1], t[2], t[3]) : x.about(2) - 1);
            }
        }
        x.begin();
        Play.runUntilBlock(x, 12);
        for (int i = 0; i < 4; i++) {
            Play.deliverAll(x, i);
        }
        for (int b = 1; b <= 9; b++) {
            Check.due("transaction of block " + b, x.block(b, 2), b - 1);
        }
        Check.due("transaction of block 10", x.block(10, 2), NONE);
        int[] money = {0, 270, 0, 130};
        int[] nonce = {2, 1, 2, 1};
        for (int a = 0; a < 4; a++) {
            Check.due("money of account " + a, x.account(3, a, 0), money[a]);
            Check.due("nonce of account " + a, x.account(3, a, 1), nonce[a]);
        }
    }

    private static void transactionsAreTakenOnceInAChain() {
        Chain x = new Chain(12);
        x.transaction(0, 1, 1, 0);
        x.transaction(0, 1, 2, 0);
        x.submit(0, 1);
        x.submit(0, 0);
        x.begin();
        Check.due("the first of the pool", x.block(1, 2), 1);
        Play.runUntilBlock(x, 3);
        Check.due("the next of it", x.block(2, 2), 0);
        Check.due("none is left", x.block(3, 2), NONE);
        Chain y = new Chain(12);
        y.submit(0, y.transaction(0, 1, 1, 0));
        y.begin();
        Play.loseAll(y);
        Play.ticks(y, 6);
        Play.deliver(y, 0, 3);
        Check.due("a block beside block 1", y.block(2, 1), 0);
        Check.due("takes the same transaction", y.block(2, 2), 0);
    }

    private static void aLockHoldsTheVote() {
        Chain x = new Chain(13);
        x.begin();
        Play.runUntilBlock(x, 3);
        Play.deliverAll(x, 1);
        Play.deliverAll(x, 3);
        Check.due("node 1 has locked block 1", x.node(1, 6), 1);
        x.lie(1, 13, 0, NONE);
        x.deliver(1);
        Check.due("no vote beside the lock", x.node(1, 5), 3);
        Check.due("no new view", x.node(1, 1), 3);
        Check.due("but it has the block", x.block(4, 4), 10);
        x.lie(1, 13, 1, NONE);
        x.deliver(1);
        Check.due("a vote above the lock", x.node(1, 5), 13);
        x.lie(1, 13, 1, NONE);
        x.deliver(1);
        Check.due("one vote in a view", x.node(1, 7), 4);
        x.lie(2, 45, 0, NONE);
        Play.lose(x, 2);
        x.lie(1, 14, 2, NONE);
        x.deliver(1);
        Check.due("a vote on block 2", x.node(1, 5), 14);
        x.lie(1, 13, 1, NONE);
        x.deliver(1);
        Check.due("no vote in a view that is over", x.node(1, 5), 14);
    }

    private static void aHigherCertificateOpensTheLock() {
        Chain x = Scenes.forked();
        Check.due("node 2 has locked block 1", x.node(2, 6), 1);
        Check.due("view of block 7", x.block(7, 0), 14);
        Check.due("parent of block 7", x.block(7, 1), 0);
        Check.due("block 7 is certified", x.block(7, 3), 1);
        Check.due("node 2 has it too", x.block(7, 4), 15);
        Check.due("but did not vote for it", x.node(2, 5), 3);
        Check.due("timeouts brought it to view 14", x.node(2, 1), 14);
        Check.due("view of block 8", x.block(8, 0), 15);
        Check.due("parent of block 8", x.block(8, 1), 7);
        Check.refusesState("a lie below its parent", x, () -> x.lie(2, 13, 7, NONE));
        Check.refusesState("a lie beside its parent", x, () -> x.lie(2, 14, 7, NONE));
        Check.due("node 2's span", x.node(2, 3), 12);
        x.deliver(2);
        Check.due("it votes for block 8", x.node(2, 5), 15);
        Check.due("the lock stays", x.node(2, 6), 1);
        Check.due("HIGH", x.node(2, 4), 7);
        Check.due("the span is 6 again", x.node(2, 3), 6);
        Check.due("and the timer", x.node(2, 2), 6);
        Check.due("a lie above its parent", x.lie(2, 15, 7, NONE), 9);
    }

    private static void spansDoubleAndFallBack() {
        Chain x = new Chain(14);
        int[] spans = {6, 12, 24, 24, 24};
        for (int k = 0; k < 4; k++) {
            Check.due("the span", x.node(1, 3), spans[k]);
            Play.ticks(x, spans[k] - 1);
            Check.due("the timer before", x.node(1, 2), 1);
            x.tick();
            Check.due("the timer behind", x.node(1, 2), spans[k + 1]);
            Check.due("timeouts sent", x.node(1, 7), k + 1);
        }
        Check.due("the view", x.node(1, 1), 1);
        Check.due("sixteen on the way", x.node(1, 11), 16);
        Play.loseAll(x);
        x.lie(1, 13, 0, NONE);
        x.deliver(1);
        Check.due("a parent far below leaves the span", x.node(1, 3), 24);
        Check.due("the timer is the span", x.node(1, 2), 24);
    }

    private static void threeTimeoutsChangeTheView() {
        Chain x = new Chain(15);
        Play.ticks(x, 6);
        x.tick();
        Play.deliver(x, 1, 2);
        Check.due("two timeouts", x.node(1, 1), 1);
        x.deliver(1);
        Check.due("three timeouts", x.node(1, 1), 2);
        Check.due("the timer is the span", x.node(1, 2), 12);
        x.tick();
        x.deliver(1);
        Check.due("the fourth does nothing", x.node(1, 2), 11);
        Check.due("node 1 does not lead view 2", x.about(1), 1);
        Play.deliver(x, 0, 3);
        Check.due("node 0 does", x.about(1), 2);
        Check.due("and proposes in it", x.block(1, 0), 2);
        Chain y = lieToThree(15);
        Play.ticks(y, 6);
        Play.lose(y, 0);
        Check.due("node 0's view", y.node(0, 1), 1);
        Play.ticks(y, 12);
        Play.deliverAll(y, 0);
        Check.due("timeouts of a view far above", y.node(0, 1), 15);
        Check.due("VOTED stays", y.node(0, 5), 1);
        y.lie(0, 14, 0, NONE);
        Play.deliverAll(y, 0);
        Check.due("no vote below its own view", y.node(0, 5), 1);
        y.lie(0, 15, 0, NONE);
        Play.deliverAll(y, 0);
        Check.due("a vote in its own view", y.node(0, 5), 15);
    }

    /** Nodes 1, 2 and 3 believe lies with view 14. */
    private static Chain lieToThree(int seed) {
        Chain x = new Chain(seed);
        for (int i = 1; i < 4; i++) {
            x.lie(i, 14, 0, NONE);
            Play.deliverAll(x, i);
        }
        Play.loseAll(x);
        return x;
    }

    private static void timeoutsAreCountedOncePerNode() {
        Chain x = new Chain(15);
        x.crash(2);
        x.crash(3);
        Play.ticks(x, 18);
        Check.due("two timeouts each of nodes 0 and 1", x.node(1, 11), 4);
        Play.deliverAll(x, 1);
        Check.due("are two", x.node(1, 1), 1);
        x.restart(3);
        Play.ticks(x, 6);
        x.disturb(1, 2);
        x.alter(1, 2, 3);
        x.deliver(1);
        Check.due("a spoiled one does not count", x.node(1, 1), 1);
        Play.deliverAll(x, 1);
        Check.due("the third node's", x.node(1, 1), 2);
        Chain y = lieToThree(15);
        Play.ticks(y, 6);
        Play.deliver(y, 2, 4);
        Check.due("node 2 in view 15", y.node(2, 1), 15);
        Chain z = new Chain(15);
        Play.ticks(z, 6);
        z.lie(2, 14, 0, NONE);
        for (int k = 0; k < 4; k++) {
            z.disturb(2, 1);
        }
        Play.deliverAll(z, 2);
        Check.due("timeouts of a view that is over", z.node(2, 1), 14);
    }

    private static void timeoutsBringHigh() {
        Chain x = Scenes.withBlockTwoProposed(16);
        Play.lose(x, 1);
        Play.lose(x, 2);
        Check.due("node 1's HIGH", x.node(1, 4), 0);
        Play.ticks(x, 6);
        Check.due("node 0's timeout has block 1", x.message(1, 0, 2), 1);
        x.deliver(1);
        Check.due("it brings HIGH", x.node(1, 4), 1);
        x.crash(1);
        x.restart(1);
        Check.due("a crash loses it", x.node(1, 4), 0);
        Chain y = Scenes.lockedAtNodeTwo();
        Play.ticks(y, 6);
        y.deliver(3);
        Check.due("what node 3 has not does not", y.node(3, 4), 0);
        y.deliver(1);
        Check.due("what node 1 has does", y.node(1, 4), 2);
        Play.deliver(y, 1, 3);
        Check.due("a lower one does not", y.node(1, 4), 2);
    }

    private static void timeoutsAreForgottenInACrash() {
        Chain x = new Chain(16);
        Play.ticks(x, 6);
        Play.deliver(x, 1, 2);
        x.crash(1);
        x.restart(1);
        Check.due("VOTED is kept", x.node(1, 5), 1);
        Play.ticks(x, 6);
        x.deliver(1);
        Check.due("its own timeout alone", x.node(1, 1), 1);
        Play.ticks(x, 6);
        x.disturb(1, 1);
        x.deliver(1);
        Check.due("node 2's is the second since the start", x.node(1, 1), 1);
        x.deliver(1);
        Check.due("three since the start", x.node(1, 1), 2);
    }

    private static void missingBlocksAreAskedFor() {
        Chain x = new Chain(17);
        x.begin();
        Play.lose(x, 1);
        for (int i : new int[] {0, 2, 3}) {
            x.deliver(i);
        }
        Play.deliver(x, 0, 3);
        x.disturb(1, 2);
        x.deliver(1);
        Check.due("it has not block 2", x.node(1, 9), 1);
        Check.due("HIGH", x.node(1, 4), 0);
        Check.due("VOTED", x.node(1, 5), 0);
        Check.due("no key is used", x.node(1, 7), 0);
        Play.deliver(x, 0, 2);
        Check.due("node 0 answers", x.message(1, 1, 0), 5);
        x.disturb(1, 1);
        x.deliver(1);
        Check.due("it has block 1", x.block(1, 4), 15);
        Check.due("it does not vote for a block that was sent", x.node(1, 5), 0);
        x.deliver(1);
        Check.due("it votes for the copy of the proposal", x.node(1, 5), 2);
        Chain y = Scenes.withBlockTwoProposed(17);
        Play.lose(y, 1);
        y.deliver(3);
        y.lie(1, 13, 1, NONE);
        y.deliver(1);
        Check.due("a parent that it has is not asked for", y.node(3, 11), 1);
    }

    private static void askingGoesDownTheChain() {
        Chain x = new Chain(18);
        x.begin();
        for (int b = 1; b <= 2; b++) {
            Play.lose(x, 3);
            for (int i = 0; i < 3; i++) {
                x.deliver(i);
            }
            Play.deliver(x, 0, 3);
        }
        x.disturb(0, 0);
        x.deliver(3);
        Check.due("node 3 asks for block 2", x.message(0, 0, 2), 2);
        x.deliver(0);
        x.deliver(3);
        Check.due("it has not block 2 yet", x.node(3, 9), 1);
        Check.due("node 3 asks for block 1", x.message(0, 0, 2), 1);
        Check.due("an ask", x.message(0, 0, 0), 4);
        x.disturb(0, 2);
        Play.deliver(x, 0, 2);
        x.deliver(3);
        Check.due("it has block 1", x.node(3, 9), 2);
        x.deliver(3);
        Check.due("it has it once", x.node(3, 9), 2);
        Check.due("no ask for block 0", x.node(0, 11), 0);
    }

    private static void messagesToItselfDoNotSpoilTheArrivedOne() {
        Chain x = new Chain(19);
        x.begin();
        for (int k = 1; k < 16; k++) {
            x.disturb(0, 2);
        }
        Check.due("sixteen on the way", x.node(0, 11), 16);
        Check.due("the kind of the first", x.deliver(0), 1);
        Check.due("its own vote came in", x.node(0, 11), 16);
        Check.due("the last is a vote", x.message(0, 15, 0), 2);
        Check.due("the one before is not", x.message(0, 14, 0), 1);
        x.deliver(1);
        Check.due("node 1's vote is lost", x.message(0, 15, 1), 0);
        Check.due("though it has voted", x.node(1, 5), 1);
    }

    private static void withoutKeysNothingIsSent() {
        Chain x = new Chain(20);
        x.begin();
        for (int i = 0; i < 3; i++) {
            x.lie(i, 14, 0, NONE);
            Play.deliver(x, i, 2);
        }
        for (int k = 3; k < 32; k++) {
            x.lieVote(2, 1);
        }
        Play.lose(x, 0);
        x.deliver(3);
        Check.due("node 3 has voted", x.node(3, 5), 1);
        Check.due("its vote is not sent", x.node(0, 11), 0);
        Play.loseAll(x);
        Play.ticks(x, 6);
        Check.due("timeouts of nodes 0, 1 and 2", x.node(3, 11), 3);
        Check.due("node 3 timed out all the same", x.node(3, 3), 12);
        Play.deliver(x, 3, 3);
        Check.due("node 3 leads view 15", x.node(3, 1), 15);
        Check.due("its block", x.block(5, 0), 15);
        Check.due("that it has", x.block(5, 4), 8);
        Check.due("is sent to nobody", x.node(3, 11), 0);
        Check.due("keys used", x.node(3, 7), 32);
    }

    private static void startTakesTheHighestParent() {
        Chain x = Scenes.forked();
        Play.deliverAll(x, 2);
        x.crash(2);
        x.restart(2);
        Check.due("the highest parent of blocks 1, 2, 3, 7 and 8", x.node(2, 4), 7);
        Check.due("its view is VOTED", x.node(2, 1), 15);
        x.crash(0);
        x.restart(0);
        Check.due("of blocks 1, 2, 3, 4 and 7, as it has not block 8", x.node(0, 4), 2);
        Check.due("its view", x.node(0, 1), 14);
    }
}
