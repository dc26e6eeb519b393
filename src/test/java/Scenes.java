/** States that the tests share. */
final class Scenes {
    private Scenes() {
    }

    /** All four vote for block 1, and node 0 has proposed block 2 on it; nothing else is on the way. */
    static Chain withBlockTwoProposed(int seed) {
        Chain x = new Chain(seed);
        x.begin();
        for (int i = 0; i < 4; i++) {
            x.deliver(i);
        }
        Play.deliver(x, 0, 4);
        return x;
    }

    /** Node 1 never saw block 1, got block 2, and has asked node 0; nothing else is on the way to both. */
    static Chain askedForBlockOne() {
        Chain x = new Chain(2);
        x.begin();
        Play.lose(x, 1);
        for (int i : new int[] {0, 2, 3}) {
            x.deliver(i);
        }
        Play.deliver(x, 0, 3);
        Play.lose(x, 0);
        x.deliver(1);
        return x;
    }

    /**
     * Node 2 has locked block 1 (view 1); nodes 0, 1 and 3 have locked nothing, and node 3 knows nothing of
     * blocks 1 to 3. Lies bring these three to view 13, timeouts to view 14, and node 3 proposes block 7 on
     * block 0, which they certify; block 8 on it is on the way to all.
     */
    static Chain forked() {
        Chain x = lockedAtNodeTwo();
        for (int i : new int[] {0, 1, 3}) {
            x.lie(i, 13, 0, QuorumChain.NONE);
        }
        Play.deliver(x, 0, 2);
        x.deliver(1);
        Play.deliver(x, 3, 4);
        Play.ticks(x, 6);
        Play.deliver(x, 3, 4);
        for (int i = 0; i < 3; i++) {
            Play.deliver(x, i, 5);
        }
        Play.deliver(x, 3, 4);
        return x;
    }

    static Chain lockedAtNodeTwo() {
        Chain x = new Chain(3);
        x.begin();
        for (int b = 1; b <= 2; b++) {
            Play.lose(x, 3);
            for (int i = 0; i < 3; i++) {
                x.deliver(i);
            }
            Play.deliver(x, 0, 3);
        }
        Play.lose(x, 3);
        Play.lose(x, 1);
        Play.lose(x, 0);
        x.deliver(2);
        return x;
    }

    /** Node i has used so many keys for timeouts of view 1; all are up, and nothing is on the way. */
    static Chain withKeysUsed(int i, int count) {
        Chain x = new Chain(23);
        for (int j = 0; j < 4; j++) {
            if (j != i) {
                x.crash(j);
            }
        }
        for (int k = 0; k < count; k++) {
            Play.ticks(x, 6);
            x.crash(i);
            x.restart(i);
        }
        for (int j = 0; j < 4; j++) {
            if (j != i) {
                x.restart(j);
                x.crash(j);
                x.restart(j);
            }
        }
        return x;
    }

    /** Block 1 is proposed, and node 3 has used so many keys for votes; nothing is on the way to node 0. */
    static Chain withLiarsKeysUsed(int count) {
        Chain x = new Chain(24);
        x.begin();
        x.disturb(0, 0);
        for (int k = 0; k < count; k++) {
            x.lieVote(1, 1);
        }
        return x;
    }

    /** All four have timed out in view 1: four timeouts are on the way to each. */
    static Chain timedOut(int seed) {
        Chain x = new Chain(seed);
        Play.ticks(x, 6);
        return x;
    }

    /**
     * Block 1 (view 1) and block 2 (view 2) are both on block 0 and certified; node 2 has locked block 1, by
     * block 8 of view 14 on it and block 9 of view 15 on that. Node 0 is down; nothing is on the way to node 2.
     */
    static Chain lockedBesideANextView() {
        Chain x = new Chain(60);
        x.begin();
        for (int i = 0; i < 3; i++) {
            x.deliver(i);
        }
        Play.ticks(x, 6);
        behind(x, 0, 3);
        Play.deliver(x, 0, 4);
        behind(x, 0, 3);
        x.deliver(0);
        Play.deliver(x, 1, 5);
        Play.deliver(x, 2, 5);
        Play.deliver(x, 3, 6);
        Play.deliver(x, 0, 6);
        x.crash(0);
        for (int i = 1; i < 4; i++) {
            x.deliver(i);
            Play.lose(x, i);
        }
        for (int i = 1; i < 4; i++) {
            x.lie(i, 13, 1, QuorumChain.NONE);
            Play.deliver(x, i, i == 3 ? 3 : 1);
        }
        Play.lose(x, 3);
        Play.ticks(x, 12);
        for (int i : new int[] {3, 1, 2}) {
            Play.deliver(x, i, 4);
        }
        Play.deliver(x, 3, 3);
        x.deliver(2);
        return x;
    }

    /**
     * Node 0 is in view 1, with HIGH block 5 (view 15) on block 4 (view 14) on block 0: it got both as answers to an
     * ASK, and heard by a timeout that block 5 is certified. On the way to it is the PROPOSAL of block 4 alone.
     */
    static Chain highFarAboveTheView(int seed) {
        Chain x = new Chain(seed);
        climbWithoutNodeZero(x, 6, 0);
        return x;
    }

    /** The same, but for node 0's span of 24 and for the four timeouts of view 1 that come before the PROPOSAL. */
    static Chain highFarAboveTheViewWithTimeouts(int seed) {
        Chain x = timedOut(seed);
        for (int i = 1; i < 4; i++) {
            Play.lose(x, i, 4);
        }
        climbWithoutNodeZero(x, 12, 4);
        return x;
    }

    /** The others time out after so many ticks; so many messages to node 0, which are the first, stay on the way. */
    private static void climbWithoutNodeZero(Chain x, int ticks, int kept) {
        for (int i = 1; i < 4; i++) {
            x.lie(i, 13, 0, QuorumChain.NONE);
            Play.deliver(x, i, i == 3 ? 4 : 1);
        }
        Play.ticks(x, ticks);
        behind(x, 0, kept);
        Play.lose(x, 0, 4);
        for (int i : new int[] {3, 1, 2}) {
            Play.deliver(x, i, 4);
        }
        for (int b = 4; b <= 5; b++) {
            for (int i = 1; i < 4; i++) {
                x.deliver(i);
            }
            Play.deliver(x, 3, 3);
        }
        behind(x, 0, kept + 1);
        Play.lose(x, 0, 1);
        askForBothBlocks(x, kept);
        Play.ticks(x, 6);
        behind(x, 0, kept + 1);
        Play.deliver(x, 0, 3);
    }

    /** Block 6 is first on the way to nodes 0 and 3; node 0 asks node 3 for block 5, and for block 4. */
    private static void askForBothBlocks(Chain x, int kept) {
        Play.lose(x, 3, 1);
        x.deliver(0);
        x.deliver(3);
        behind(x, 0, kept + 1);
        x.disturb(0, 2);
        x.deliver(0);
        x.deliver(3);
        behind(x, 0, kept + 2);
        x.deliver(0);
        behind(x, 0, kept + 1);
        x.deliver(0);
    }

    /** The first messages to node i go behind all others, one after the other. */
    private static void behind(Chain x, int i, int count) {
        for (int k = 0; k < count; k++) {
            x.disturb(i, 1);
        }
    }

    static Chain withTransactions(int count) {
        Chain x = new Chain(1);
        for (int t = 0; t < count; t++) {
            x.transaction(0, 1, 1, 0);
        }
        return x;
    }

    /** Node 1 has not block 1, and block 2 on it is on the way to it, so many times. */
    static Chain blockOneIsMissing(int copies) {
        Chain x = new Chain(45);
        x.begin();
        x.disturb(1, 0);
        for (int i : new int[] {0, 2, 3}) {
            x.deliver(i);
        }
        Play.deliver(x, 0, 3);
        Play.fill(x, 1, copies);
        return x;
    }
}
