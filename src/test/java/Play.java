/** Moves of several calls that the tests share. */
final class Play {
    private Play() {
    }

    /** Delivers so many messages to node i. */
    static void deliver(Chain x, int i, int times) {
        for (int k = 0; k < times; k++) {
            x.deliver(i);
        }
    }

    /** Delivers all that is on the way to node i, also what it sends to itself meanwhile. */
    static void deliverAll(Chain x, int i) {
        for (int k = 0; k < 100; k++) {
            if (tryToDeliver(x, i) == 0) {
                return;
            }
        }
    }

    /** The kind of what was delivered, 0 when nothing was on the way: a call less than to look before. */
    private static int tryToDeliver(Chain x, int i) {
        try {
            return x.deliver(i);
        } catch (IllegalStateException e) {
            return 0;
        }
    }

    /** Loses all that is on the way to node i. */
    static void lose(Chain x, int i) {
        lose(x, i, x.node(i, 11));
    }

    /** Loses the first so many messages to node i. */
    static void lose(Chain x, int i, int count) {
        for (int k = 0; k < count; k++) {
            x.disturb(i, 0);
        }
    }

    static void loseAll(Chain x) {
        for (int i = 0; i < 4; i++) {
            lose(x, i);
        }
    }

    /** Copies the first message to node i until so many are on the way. */
    static void fill(Chain x, int i, int count) {
        for (int k = x.node(i, 11); k < count; k++) {
            x.disturb(i, 2);
        }
    }

    static void ticks(Chain x, int times) {
        for (int k = 0; k < times; k++) {
            x.tick();
        }
    }

    /** Delivers to one node after the other until block b is there. */
    static void runUntilBlock(Chain x, int b) {
        int blocks = x.about(1);
        for (int round = 0; round < 200 && blocks <= b; round++) {
            for (int i = 0; i < 4 && blocks <= b; i++) {
                int kind = tryToDeliver(x, i);
                if (kind == 2 || kind == 3) {
                    blocks = x.about(1);
                }
            }
        }
    }

    /** Delivers to the nodes but node i until block b is there; what goes to node i stays on the way. */
    static void runOthersUntilBlock(Chain x, int i, int b) {
        int blocks = x.about(1);
        for (int round = 0; round < 200 && blocks <= b; round++) {
            for (int j = 0; j < 4 && blocks <= b; j++) {
                int kind = j == i ? 0 : tryToDeliver(x, j);
                if (kind == 2 || kind == 3) {
                    blocks = x.about(1);
                }
            }
        }
    }
}
