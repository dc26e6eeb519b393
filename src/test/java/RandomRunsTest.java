import java.util.Random;
import java.util.TreeMap;

/**
 * Runs of 512 calls, drawn from a fixed seed, on the program and on the document read a second time
 * (NaiveChain): every answer is the same, and so is, from time to time, all that the face shows.
 */
public final class RandomRunsTest {
    private static final int RUNS = 240;
    private static final int CALLS_OF_A_TURN = 6;
    private static final long[] MASKS = {0, 1, -1, Long.MIN_VALUE, 1L << 40};

    private final Chain x;
    private final NaiveChain y;
    private final Random random;
    private final int manner;
    private final String name;
    private static final TreeMap<String, Integer> SEEN = new TreeMap<>();

    private RandomRunsTest(int run) {
        random = new Random(run);
        int seed = run % 5 == 0 ? random.nextInt() : run;
        x = new Chain(seed);
        y = new NaiveChain(seed);
        manner = run % 7;
        name = "run " + run;
    }

    public static void main(String[] args) {
        for (int run = 0; run < RUNS && Check.wrongSoFar() == 0; run++) {
            new RandomRunsTest(run).play();
        }
        System.out.println("seen: " + SEEN);
        String[] wanted = {"kind 1", "kind 2", "kind 3", "kind 4", "kind 5", "committed", "money moved",
            "node 1 proposed", "node 3 proposed", "keys used up", "inbox full", "locked", "long log"};
        for (String event : wanted) {
            Check.holds("some run has seen: " + event, SEEN.containsKey(event));
        }
        Check.end();
    }

    private void play() {
        Check.same(name + ", new", x.all(), Watch.all(y));
        for (int turn = 0; x.callsLeft() >= CALLS_OF_A_TURN && Check.wrongSoFar() == 0; turn++) {
            String what = name + ", turn " + turn;
            if (turn == manner) {
                both(what + " begin", () -> x.begin(), () -> y.begin());
            } else {
                playOne(what);
            }
            playReading(what);
            if (turn % 50 == 49) {
                Check.same(what + ", state", x.all(), Watch.all(y));
            }
        }
        Check.same(name + ", in the end", x.all(), Watch.all(y));
        lookBack();
    }

    private void playOne(String what) {
        int r = random.nextInt(1000);
        int trouble = new int[] {0, 20, 60, 60, 150, 150, 600}[manner];
        int ticks = new int[] {10, 60, 150, 60, 100, 300, 100}[manner];
        if (r < trouble) {
            playTrouble(what);
        } else if (r < trouble + ticks) {
            both(what + " tick", () -> x.tick(), () -> y.tick());
        } else if (r < trouble + ticks + 40) {
            playMoney(what);
        } else {
            int i = someNodeWithMessages();
            both(what + " deliver " + i, () -> x.deliver(i), () -> y.deliver(i));
        }
    }

    private void playReading(String what) {
        int i = random.nextInt(4);
        int k = random.nextInt(3);
        int about = random.nextInt(13) - 1;
        switch (random.nextInt(12)) {
            case 0 -> both(what + " node", () -> x.node(i, about), () -> y.node(i, about));
            case 1 -> both(what + " message", () -> x.message(i, k, about), () -> y.message(i, k, about));
            case 2 -> both(what + " block", () -> x.block(y.about(1) - k, about),
                    () -> y.block(y.about(1) - k, about));
            case 3 -> both(what + " log", () -> x.log(i, about), () -> y.log(i, about));
            case 4 -> both(what + " account", () -> x.account(i, k, about % 2), () -> y.account(i, k, about % 2));
            default -> { }
        }
    }

    private void playMoney(String what) {
        int from = random.nextInt(40) == 0 ? odd() : random.nextInt(4);
        int to = random.nextInt(40) == 0 ? odd() : random.nextInt(4);
        int amount = random.nextInt(40) == 0 ? odd() : random.nextInt(70);
        int nonce = random.nextInt(40) == 0 ? odd() : random.nextInt(2);
        both(what + " transaction", () -> x.transaction(from, to, amount, nonce),
                () -> y.transaction(from, to, amount, nonce));
        for (int i = 0; i < 4; i++) {
            int node = random.nextInt(30) == 0 ? odd() : i;
            int t = random.nextInt(30) == 0 ? odd() : random.nextInt(Math.max(1, y.about(2)));
            both(what + " submit", () -> x.submit(node, t), () -> y.submit(node, t));
        }
    }

    private void playTrouble(String what) {
        int i = random.nextInt(30) == 0 ? odd() : random.nextInt(4);
        int b = random.nextInt(20) == 0 ? odd() : Math.max(0, y.about(1) - 1 - random.nextInt(4));
        switch (random.nextInt(manner == 4 || manner == 5 ? 10 : 6)) {
            case 0, 1, 2 -> {
                int how = random.nextInt(20) == 0 ? odd() : manner == 6 ? 2 : random.nextInt(3);
                both(what + " disturb", () -> x.disturb(i, how), () -> y.disturb(i, how));
            }
            case 3 -> {
                int which = random.nextInt(20) == 0 ? odd() : random.nextInt(11);
                long mask = MASKS[random.nextInt(MASKS.length)];
                both(what + " alter", () -> x.alter(i, which, mask), () -> y.alter(i, which, mask));
            }
            case 4 -> both(what + " lieVote", () -> x.lieVote(i, b), () -> y.lieVote(i, b));
            case 5 -> {
                int v = random.nextInt(3) == 0 ? random.nextInt(70) - 5 : 13 + random.nextInt(4);
                int t = random.nextInt(2) == 0 ? -1 : random.nextInt(8) - 2;
                both(what + " lie", () -> x.lie(i, v, b, t), () -> y.lie(i, v, b, t));
            }
            case 6 -> both(what + " crash", () -> x.crash(i), () -> y.crash(i));
            default -> {
                int k = someNodeThatIsDown(i);
                both(what + " restart", () -> x.restart(k), () -> y.restart(k));
            }
        }
    }

    private int odd() {
        int[] row = {-1, 4, 5, 11, 40, 100, 1001, Integer.MIN_VALUE, Integer.MAX_VALUE};
        return row[random.nextInt(row.length)];
    }

    private int someNodeWithMessages() {
        int i = random.nextInt(4);
        for (int k = 0; k < 4 && manner != 5; k++) {
            if (y.node((i + k) % 4, 11) > 0) {
                return (i + k) % 4;
            }
        }
        return i;
    }

    private int someNodeThatIsDown(int otherwise) {
        for (int k = 0; k < 4; k++) {
            if (y.node(k, 0) == 0) {
                return k;
            }
        }
        return otherwise;
    }

    private void both(String what, Check.Call ours, Check.Call theirs) {
        String got = Check.outcome(ours);
        Check.same(what, got, Check.outcome(theirs));
        if (what.contains("deliver")) {
            see("kind " + got);
        }
        for (int i = 0; i < 4; i++) {
            if (y.node(i, 11) == 16) {
                see("inbox full");
            }
        }
    }

    private void lookBack() {
        for (int i = 0; i < 4; i++) {
            int logged = y.node(i, 8);
            see(logged > 1 ? "committed" : "not committed");
            see(logged > 4 ? "long log" : "short log");
            see(y.node(i, 6) > 0 ? "locked" : "not locked");
            see(y.node(i, 7) == 32 ? "keys used up" : "keys left");
            for (int a = 0; a < 4; a++) {
                see(y.account(i, a, 0) == 100 ? "money at rest" : "money moved");
            }
        }
        for (int b = 1; b < y.about(1); b++) {
            see("node " + NaiveChain.leader(y.block(b, 0)) + " proposed");
        }
    }

    private static void see(String event) {
        SEEN.merge(event, 1, Integer::sum);
    }
}
