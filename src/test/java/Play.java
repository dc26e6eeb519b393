/** Moves of several calls that the tests share. */
final class Play {
    private Play() {
    }

    /** Delivers so many messages to node i. */
    static void deliver(QuorumChain x, int i, int times) {
        for (int k = 0; k < times; k++) {
            x.deliver(i);
        }
    }

    /** Delivers all that is on the way to node i, also what it sends to itself meanwhile. */
    static void deliverAll(QuorumChain x, int i) {
        for (int k = 0; k < 100 && x.node(i, 11) > 0; k++) {
            x.deliver(i);
        }
    }

    /** Loses all that is on the way to node i. */
    static void lose(QuorumChain x, int i) {
        for (int k = 0; k < 16 && x.node(i, 11) > 0; k++) {
            x.disturb(i, 0);
        }
    }

    static void loseAll(QuorumChain x) {
        for (int i = 0; i < 4; i++) {
            lose(x, i);
        }
    }

    static void ticks(QuorumChain x, int times) {
        for (int k = 0; k < times; k++) {
            x.tick();
        }
    }

    /** Delivers to one node after the other until nothing is on the way, or block b is there. */
    static void runUntilBlock(QuorumChain x, int b) {
        for (int round = 0; round < 200 && x.about(1) <= b; round++) {
            for (int i = 0; i < 4 && x.about(1) <= b; i++) {
                if (x.node(i, 11) > 0) {
                    x.deliver(i);
                }
            }
        }
    }

    /** All four vote for block 1, and node 0 has proposed block 2 on it; nothing else is on the way. */
    static QuorumChain withBlockTwoProposed(int seed) {
        QuorumChain x = new QuorumChain(seed);
        x.begin();
        for (int i = 0; i < 4; i++) {
            x.deliver(i);
        }
        deliver(x, 0, 4);
        return x;
    }
}
