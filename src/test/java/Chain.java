import java.util.ArrayList;
import java.util.List;
import java.util.function.Function;

/**
 * A QuorumChain that is called at most 512 times, as the document promises nothing behind that. The calls that
 * may change something are remembered, so that all that the face shows can be read on other objects that have
 * been called in the same way.
 */
final class Chain implements Face {
    static final int CALLS = 512;
    private static final int FORESEEN = 258;

    private final int seed;
    private final QuorumChain x;
    private final List<Function<QuorumChain, Object>> moves = new ArrayList<>();
    private int calls = 0;

    Chain(int seed) {
        this.seed = seed;
        x = new QuorumChain(seed);
    }

    int callsLeft() {
        return CALLS - calls;
    }

    /** All that the face shows now. */
    List<Long> all() {
        return Watch.all(new Reader());
    }

    /**
     * What a fixed row of further calls would answer: it tells of what the face does not show at once, as votes
     * and timeouts that were kept, the order of a pool, signatures, and whether begin was called.
     */
    List<String> foreseen() {
        if (moves.size() + FORESEEN > CALLS) {
            throw new AssertionError("a test leaves no calls to foresee with");
        }
        QuorumChain y = replayed();
        List<String> answers = new ArrayList<>();
        answers.add(Check.outcome(y::begin));
        for (int k = 0; k < 12; k++) {
            int i = k % 4;
            int t = k / 4;
            answers.add(Check.outcome(() -> y.submit(i, t)));
        }
        for (int k = 0; k < 80; k++) {
            int i = k % 4;
            answers.add(Check.outcome(k % 16 == 15 ? y::tick : () -> y.deliver(i)));
            answers.add("view " + y.node(i, 1));
        }
        for (int k = 0; k < 48; k++) {
            answers.add(String.valueOf(y.node(k / 12, k % 12)));
        }
        int blocks = Math.min(12, y.about(1));
        for (int b = 0; b < blocks; b++) {
            answers.add(y.block(b, 0) + " " + y.block(b, 2) + " " + y.block(b, 4));
        }
        return answers;
    }

    public int transaction(int from, int to, int amount, int nonce) {
        return move(y -> y.transaction(from, to, amount, nonce));
    }

    public boolean submit(int i, int t) {
        return move(y -> y.submit(i, t));
    }

    public boolean begin() {
        return move(y -> y.begin());
    }

    public int deliver(int i) {
        return move(y -> y.deliver(i));
    }

    public boolean disturb(int i, int how) {
        return move(y -> y.disturb(i, how));
    }

    public boolean alter(int i, int which, long mask) {
        return move(y -> y.alter(i, which, mask));
    }

    public int lie(int i, int v, int p, int t) {
        return move(y -> y.lie(i, v, p, t));
    }

    public boolean lieVote(int i, int b) {
        return move(y -> y.lieVote(i, b));
    }

    public int tick() {
        return move(y -> y.tick());
    }

    public boolean crash(int i) {
        return move(y -> y.crash(i));
    }

    public boolean restart(int i) {
        return move(y -> y.restart(i));
    }

    public int node(int i, int what) {
        return counted().node(i, what);
    }

    public int log(int i, int k) {
        return counted().log(i, k);
    }

    public int account(int i, int a, int what) {
        return counted().account(i, a, what);
    }

    public int block(int b, int what) {
        return counted().block(b, what);
    }

    public int message(int i, int k, int what) {
        return counted().message(i, k, what);
    }

    public long root(int i) {
        return counted().root(i);
    }

    public int about(int what) {
        return counted().about(what);
    }

    @SuppressWarnings("unchecked")
    private <T> T move(Function<QuorumChain, T> call) {
        moves.add(y -> call.apply(y));
        return (T) moves.get(moves.size() - 1).apply(counted());
    }

    private QuorumChain counted() {
        calls++;
        if (calls > CALLS) {
            throw new AssertionError("a test calls an object more than " + CALLS + " times");
        }
        return x;
    }

    private QuorumChain replayed() {
        QuorumChain y = new QuorumChain(seed);
        for (Function<QuorumChain, Object> call : moves) {
            Check.outcome(() -> call.apply(y));
        }
        return y;
    }

    /** Answers from objects that were called in the same way, each for as many calls as it has left. */
    private final class Reader implements Watch.Readable {
        private QuorumChain y;
        private int left = 0;

        private QuorumChain next() {
            if (left == 0) {
                y = replayed();
                left = CALLS - moves.size();
            }
            if (left <= 0) {
                throw new AssertionError("a test leaves no calls to read with");
            }
            left--;
            return y;
        }

        public int node(int i, int what) {
            return next().node(i, what);
        }

        public int log(int i, int k) {
            return next().log(i, k);
        }

        public int account(int i, int a, int what) {
            return next().account(i, a, what);
        }

        public int block(int b, int what) {
            return next().block(b, what);
        }

        public int message(int i, int k, int what) {
            return next().message(i, k, what);
        }

        public long root(int i) {
            return next().root(i);
        }

        public int about(int what) {
            return next().about(what);
        }
    }
}
