import java.util.ArrayList;
import java.util.LinkedHashMap;
import java.util.List;
import java.util.Map;
import java.util.function.Consumer;
import java.util.function.Function;

/**
 * In each of some states: every call with every mix of arguments at the edges, each answered as the document's
 * second reading (NaiveChain) answers it. Behind calls that are refused all is as before; behind one that is
 * taken, all that the face shows is as in the second reading.
 */
public final class EveryCallTest {
    private static final int SEED = 81;
    private static final int NONE = QuorumChain.NONE;
    private static final int LEAST = Integer.MIN_VALUE;
    private static final int MOST = Integer.MAX_VALUE;
    private static final int REFUSED_AT_ONCE = 150;
    private static final int[] NODES = {LEAST, -1, 0, 1, 2, 3, 4, MOST};
    private static final int[] NUMBERS = {LEAST, -2, -1, 0, 1, 2, 3, 4, 39, 40, 99, 100, MOST};
    private static final int[] WHATS = {LEAST, -1, 0, 1, 2, 3, 4, 5, 6, 7, 8, 9, 10, 11, 12, MOST};

    private final String state;
    private final Consumer<Face> scene;
    private final List<Function<Face, Object>> calls = new ArrayList<>();
    private final List<String> names = new ArrayList<>();

    private EveryCallTest(String state, Consumer<Face> scene) {
        this.state = state;
        this.scene = scene;
    }

    public static void main(String[] args) {
        Map<String, Consumer<Face>> scenes = new LinkedHashMap<>();
        scenes.put("a new object", x -> { });
        scenes.put("two votes and two timeouts are kept", EveryCallTest::halfCounted);
        scenes.put("40 transactions, 16 messages", EveryCallTest::full);
        scenes.put("node 3 is down", EveryCallTest::withoutTheLiar);
        scenes.put("node 3 has no key", EveryCallTest::withoutTheLiarsKeys);
        scenes.put("a block is asked for", EveryCallTest::asked);
        scenes.put("block 1 is certified", EveryCallTest::certified);
        scenes.put("all are down", EveryCallTest::allDown);
        for (Map.Entry<String, Consumer<Face>> e : scenes.entrySet()) {
            EveryCallTest test = new EveryCallTest(e.getKey(), e.getValue());
            Check.sentence("What throws changes nothing.", test::tryCalls);
            Check.sentence("Nothing is promised beyond the answers and state changes described above",
                    test::tryReading);
        }
        Check.end();
    }

    private static void halfCounted(Face x) {
        x.transaction(0, 1, 5, 0);
        x.transaction(0, 1, 6, 0);
        x.submit(0, 1);
        x.submit(0, 0);
        x.submit(1, 0);
        x.begin();
        for (int i = 0; i < 3; i++) {
            x.deliver(i);
        }
        x.deliver(0);
        x.deliver(0);
        for (int k = 0; k < 6; k++) {
            x.tick();
        }
        x.deliver(1);
        x.deliver(1);
        x.alter(2, 3, 1);
    }

    private static void full(Face x) {
        for (int t = 0; t < 40; t++) {
            x.transaction(t % 4, 1, t, 0);
        }
        x.submit(0, 39);
        x.begin();
        for (int k = 1; k < 16; k++) {
            x.disturb(1, 2);
        }
        for (int k = 1; k < 15; k++) {
            x.disturb(0, 2);
        }
        x.disturb(3, 0);
    }

    private static void withoutTheLiar(Face x) {
        x.transaction(0, 1, 5, 0);
        x.begin();
        x.deliver(3);
        x.crash(3);
        x.tick();
    }

    private static void withoutTheLiarsKeys(Face x) {
        x.transaction(0, 1, 5, 0);
        x.begin();
        x.deliver(3);
        for (int k = 1; k < 32; k++) {
            x.lieVote(2, 1);
        }
        x.crash(0);
    }

    private static void asked(Face x) {
        x.begin();
        x.disturb(1, 0);
        for (int i : new int[] {0, 2, 3}) {
            x.deliver(i);
        }
        for (int k = 0; k < 3; k++) {
            x.deliver(0);
        }
        x.disturb(0, 0);
        x.disturb(1, 2);
        x.deliver(1);
        x.disturb(0, 2);
        x.deliver(0);
        x.disturb(1, 1);
    }

    private static void certified(Face x) {
        x.transaction(0, 1, 5, 0);
        x.begin();
        for (int i = 0; i < 4; i++) {
            x.deliver(i);
        }
        for (int k = 0; k < 3; k++) {
            x.deliver(0);
        }
        x.deliver(3);
    }

    private static void allDown(Face x) {
        x.transaction(0, 1, 5, 0);
        x.begin();
        x.deliver(1);
        for (int i = 0; i < 4; i++) {
            x.crash(i);
        }
    }

    private void call(String name, Function<Face, Object> f) {
        names.add(name);
        calls.add(f);
    }

    private void makeCalls() {
        call("begin()", x -> x.begin());
        call("tick()", x -> x.tick());
        for (int i : NODES) {
            call("deliver(" + i + ")", x -> x.deliver(i));
            call("crash(" + i + ")", x -> x.crash(i));
            call("restart(" + i + ")", x -> x.restart(i));
            for (int k : NUMBERS) {
                call("submit(" + i + ", " + k + ")", x -> x.submit(i, k));
                call("disturb(" + i + ", " + k + ")", x -> x.disturb(i, k));
                call("lieVote(" + i + ", " + k + ")", x -> x.lieVote(i, k));
            }
            for (int which : new int[] {LEAST, -1, 0, 5, 6, 10, 11, MOST}) {
                for (long mask : new long[] {0, 1, Long.MIN_VALUE, Long.MAX_VALUE}) {
                    call("alter(" + i + ", " + which + ", " + mask + ")", x -> x.alter(i, which, mask));
                }
            }
            makeLies(i);
        }
        makeTransactions();
    }

    private void makeLies(int i) {
        for (int v : new int[] {LEAST, 0, 1, 12, 13, 16, 17, 48, 49, 60, 61, MOST}) {
            for (int p : new int[] {LEAST, -1, 0, 1, 2, 3, 100, MOST}) {
                for (int t : new int[] {LEAST, -2, NONE, 0, 1, 40, MOST}) {
                    call("lie(" + i + ", " + v + ", " + p + ", " + t + ")", x -> x.lie(i, v, p, t));
                }
            }
        }
    }

    private void makeTransactions() {
        int[] accounts = {LEAST, -1, 0, 3, 4, MOST};
        int[] amounts = {LEAST, -1, 0, 1000, 1001, MOST};
        for (int from : accounts) {
            for (int to : accounts) {
                for (int amount : amounts) {
                    for (int nonce : amounts) {
                        call("transaction(" + from + ", " + to + ", " + amount + ", " + nonce + ")",
                                x -> x.transaction(from, to, amount, nonce));
                    }
                }
            }
        }
    }

    private void makeReading() {
        for (int i : NODES) {
            call("root(" + i + ")", x -> x.root(i));
            for (int what : WHATS) {
                call("node(" + i + ", " + what + ")", x -> x.node(i, what));
            }
            for (int k : NUMBERS) {
                call("log(" + i + ", " + k + ")", x -> x.log(i, k));
                for (int what : new int[] {LEAST, -1, 0, 1, 2, MOST}) {
                    call("account(" + i + ", " + k + ", " + what + ")", x -> x.account(i, k, what));
                }
            }
            for (int k : new int[] {LEAST, -1, 0, 1, 2, 4, 5, 15, 16, MOST}) {
                for (int what : new int[] {LEAST, -1, 0, 1, 2, 3, 4, 5, MOST}) {
                    call("message(" + i + ", " + k + ", " + what + ")", x -> x.message(i, k, what));
                }
            }
        }
        for (int what : WHATS) {
            call("about(" + what + ")", x -> x.about(what));
            for (int b : NUMBERS) {
                call("block(" + b + ", " + what + ")", x -> x.block(b, what));
            }
        }
    }

    private Chain chain() {
        Chain x = new Chain(SEED);
        scene.accept(x);
        return x;
    }

    private NaiveChain reading() {
        NaiveChain y = new NaiveChain(SEED);
        scene.accept(y);
        return y;
    }

    private void tryCalls() {
        makeCalls();
        List<Long> before = chain().all();
        List<String> foreseen = chain().foreseen();
        Check.same(state, before, Watch.all(reading()));
        NaiveChain y = reading();
        Chain x = chain();
        int refused = 0;
        for (int k = 0; k < calls.size(); k++) {
            Function<Face, Object> f = calls.get(k);
            NaiveChain asked = y;
            String due = Check.outcome(() -> f.apply(asked));
            if (due.startsWith("Illegal")) {
                Chain refusing = x;
                Check.same(state + ": " + names.get(k), Check.outcome(() -> f.apply(refusing)), due);
                refused++;
            } else {
                tryTaken(k, due, y);
                y = reading();
            }
            if (refused == REFUSED_AT_ONCE || k == calls.size() - 1) {
                Check.same(state + ", behind refused calls up to " + names.get(k), x.all(), before);
                Check.same(state + ", to come behind " + names.get(k), x.foreseen(), foreseen);
                x = chain();
                refused = 0;
            }
        }
        calls.clear();
        names.clear();
    }

    private void tryTaken(int k, String due, NaiveChain y) {
        Chain x = chain();
        Check.same(state + ": " + names.get(k), Check.outcome(() -> calls.get(k).apply(x)), due);
        Check.same(state + ", behind " + names.get(k), x.all(), Watch.all(y));
    }

    private void tryReading() {
        makeReading();
        NaiveChain y = reading();
        Chain x = chain();
        for (int k = 0; k < calls.size(); k++) {
            if (x.callsLeft() == 0) {
                x = chain();
            }
            Chain asked = x;
            Function<Face, Object> f = calls.get(k);
            Check.same(state + ": " + names.get(k), Check.outcome(() -> f.apply(asked)),
                    Check.outcome(() -> f.apply(y)));
        }
    }
}
