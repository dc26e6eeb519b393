import java.util.ArrayDeque;
import java.util.ArrayList;
import java.util.Arrays;
import java.util.Collections;
import java.util.HashMap;
import java.util.HashSet;
import java.util.List;
import java.util.Map;
import java.util.Set;
import java.util.TreeMap;

/**
 * The document read a second time, with the Java library and without care for room or speed.
 * A signature is good here when nothing was altered, or altered back.
 */
final class NaiveChain implements Face {
    private static final class Blk {
        int number;
        int view;
        Blk parent;
        int tx = -1;
        boolean certified;

        boolean under(Blk other) {
            for (Blk b = other.parent; b != null; b = b.parent) {
                if (b == this) {
                    return true;
                }
            }
            return false;
        }
    }

    private record Msg(int kind, int sender, Blk block, int view, int key, long[] changed) {
        Msg twin() {
            return new Msg(kind, sender, block, view, key, changed.clone());
        }

        boolean good() {
            return Arrays.equals(changed, new long[11]);
        }
    }

    private final class Peer {
        final int id;
        final long root;
        boolean up = true;
        int view = 1;
        int timer = 6;
        int span = 6;
        Blk high = blocks.get(0);
        final Map<Blk, Set<Integer>> votes = new HashMap<>();
        final Map<Integer, Set<Integer>> timeouts = new HashMap<>();
        final List<Integer> pool = new ArrayList<>();
        final ArrayDeque<Msg> coming = new ArrayDeque<>();
        final Map<Integer, Blk> has = new TreeMap<>();
        int voted = 0;
        Blk locked = blocks.get(0);
        int keys = 0;
        final List<Blk> log = new ArrayList<>();
        final int[] money = {100, 100, 100, 100};
        final int[] nonce = new int[4];

        Peer(long seed, int id) {
            this.id = id;
            has.put(0, blocks.get(0));
            log.add(blocks.get(0));
            List<Long> row = new ArrayList<>();
            for (int k = 0; k < 32; k++) {
                long[] ends = new long[6];
                for (int c = 0; c < 6; c++) {
                    ends[c] = fold(seed, id, k, c);
                    for (int s = 0; s < 15; s++) {
                        ends[c] = fold(ends[c], 77);
                    }
                }
                row.add(fold(ends));
            }
            while (row.size() > 1) {
                List<Long> upper = new ArrayList<>();
                for (int k = 0; k < row.size(); k += 2) {
                    upper.add(fold(row.get(k), row.get(k + 1)));
                }
                row = upper;
            }
            root = row.get(0);
        }

        boolean knows(Blk b) {
            return has.containsKey(b.number);
        }

        void learn(Blk b) {
            has.put(b.number, b);
        }

        void enter(int v) {
            view = v;
            timer = span;
        }

        void sendSigned(int kind, Blk b, int v, int... to) {
            if (keys == 32) {
                return;
            }
            int key = keys++;
            for (int i : to) {
                post(i, new Msg(kind, id, b, v, key, new long[11]));
            }
        }

        void send(int kind, Blk b, int to) {
            post(to, new Msg(kind, id, b, 0, -1, new long[11]));
        }

        void propose() {
            if (blocks.size() == 100) {
                return;
            }
            Set<Integer> spent = new HashSet<>();
            for (Blk b = high; b != null; b = b.parent) {
                spent.add(b.tx);
            }
            int tx = pool.stream().filter(t -> !spent.contains(t)).findFirst().orElse(-1);
            Blk b = newBlock(view, high, tx);
            learn(b);
            sendSigned(1, b, 0, 0, 1, 2, 3);
        }

        void proposal(int sender, Blk b) {
            Blk p = b.parent;
            if (!knows(p)) {
                send(4, p, sender);
                return;
            }
            learn(b);
            if (p.view > high.view) {
                high = p;
            }
            Blk q = p.parent;
            if (q != null && q.view > locked.view) {
                locked = q;
            }
            if (q != null && q.parent != null && q.view == p.view - 1 && q.parent.view == q.view - 1) {
                commit(q.parent);
            }
            boolean fresh = b.view > voted && b.view >= view;
            if (fresh && (locked.under(b) || p.view > locked.view)) {
                if (p.view == b.view - 1) {
                    span = 6;
                }
                enter(b.view);
                voted = b.view;
                sendSigned(2, b, 0, leader(b.view + 1));
            }
        }

        void commit(Blk r) {
            Blk last = log.get(log.size() - 1);
            if (last != r && !last.under(r)) {
                return;
            }
            List<Blk> more = new ArrayList<>();
            for (Blk b = r; b != last; b = b.parent) {
                more.add(b);
            }
            Collections.reverse(more);
            for (Blk b : more) {
                log.add(b);
                if (b.tx >= 0) {
                    carryOut(transactions.get(b.tx));
                }
            }
        }

        void carryOut(int[] t) {
            if (nonce[t[0]] == t[3] && money[t[0]] >= t[2]) {
                money[t[0]] -= t[2];
                money[t[1]] += t[2];
                nonce[t[0]]++;
            }
        }

        void vote(int sender, Blk b) {
            if (!knows(b) || leader(b.view + 1) != id) {
                return;
            }
            Set<Integer> from = votes.computeIfAbsent(b, k -> new HashSet<>());
            if (from.add(sender) && from.size() == 3) {
                b.certified = true;
                if (b.view >= view - 1 && b.view > high.view) {
                    high = b;
                    enter(b.view + 1);
                    propose();
                }
            }
        }

        void timeout(int sender, int v, Blk h) {
            if (knows(h) && h.certified && h.view > high.view) {
                high = h;
            }
            Set<Integer> from = timeouts.computeIfAbsent(v, k -> new HashSet<>());
            if (from.add(sender) && from.size() == 3 && v >= view) {
                enter(v + 1);
                if (leader(v + 1) == id) {
                    propose();
                }
            }
        }
    }

    private final List<Blk> blocks = new ArrayList<>();
    private final List<int[]> transactions = new ArrayList<>();
    private final Peer[] peers = new Peer[4];
    private int clock = 0;
    private boolean begun = false;

    NaiveChain(int seed) {
        newBlock(0, null, -1).certified = true;
        for (int i = 0; i < 4; i++) {
            peers[i] = new Peer(seed, i);
        }
    }

    static long fold(long... row) {
        long h = -7046029254386353131L;
        for (long v : row) {
            h = (h ^ v) * -4417276706812531889L;
            h = h ^ (h >>> 29);
        }
        h = h * 1609587929392839161L;
        return h ^ (h >>> 32);
    }

    static int leader(int v) {
        return (v - 1) / 4 % 4;
    }

    private Blk newBlock(int view, Blk parent, int tx) {
        Blk b = new Blk();
        b.number = blocks.size();
        b.view = view;
        b.parent = parent;
        b.tx = tx;
        blocks.add(b);
        return b;
    }

    private void post(int to, Msg m) {
        if (peers[to].coming.size() < 16) {
            peers[to].coming.add(m);
        }
    }

    private static void argument(boolean good) {
        if (!good) {
            throw new IllegalArgumentException();
        }
    }

    private static void state(boolean good) {
        if (!good) {
            throw new IllegalStateException();
        }
    }

    private static boolean in(int v, int least, int most) {
        return least <= v && v <= most;
    }

    private boolean isBlock(int b) {
        return in(b, 0, blocks.size() - 1);
    }

    private boolean isTransaction(int t) {
        return in(t, 0, transactions.size() - 1);
    }

    public int transaction(int from, int to, int amount, int nonce) {
        argument(in(from, 0, 3) && in(to, 0, 3) && in(amount, 0, 1000) && in(nonce, 0, 1000));
        state(transactions.size() < 40);
        transactions.add(new int[] {from, to, amount, nonce});
        return transactions.size() - 1;
    }

    public boolean submit(int i, int t) {
        argument(in(i, 0, 3) && isTransaction(t));
        state(peers[i].up);
        return !peers[i].pool.contains(t) && peers[i].pool.add(t);
    }

    public boolean begin() {
        state(!begun && peers[0].up && peers[0].view == 1);
        begun = true;
        peers[0].propose();
        return true;
    }

    public int deliver(int i) {
        argument(in(i, 0, 3));
        Peer n = peers[i];
        state(!n.coming.isEmpty());
        Msg m = n.coming.remove();
        if (!n.up || m.kind() <= 3 && !m.good()) {
            return m.kind();
        }
        switch (m.kind()) {
            case 1 -> {
                if (leader(m.block().view) == m.sender()) {
                    n.proposal(m.sender(), m.block());
                }
            }
            case 2 -> n.vote(m.sender(), m.block());
            case 3 -> n.timeout(m.sender(), m.view(), m.block());
            case 4 -> {
                if (n.knows(m.block())) {
                    n.send(5, m.block(), m.sender());
                }
            }
            default -> {
                if (n.knows(m.block().parent)) {
                    n.learn(m.block());
                } else {
                    n.send(4, m.block().parent, m.sender());
                }
            }
        }
        return m.kind();
    }

    public boolean disturb(int i, int how) {
        argument(in(i, 0, 3) && in(how, 0, 2));
        ArrayDeque<Msg> coming = peers[i].coming;
        state(!coming.isEmpty() && !(how == 2 && coming.size() == 16));
        if (how == 2) {
            coming.add(coming.peek().twin());
        } else {
            Msg m = coming.remove();
            if (how == 1) {
                coming.add(m);
            }
        }
        return true;
    }

    public boolean alter(int i, int which, long mask) {
        argument(in(i, 0, 3) && in(which, 0, 10));
        state(!peers[i].coming.isEmpty() && peers[i].coming.peek().key() >= 0);
        peers[i].coming.peek().changed()[which] ^= mask;
        return true;
    }

    public int lie(int i, int v, int p, int t) {
        argument(in(i, 0, 3) && isBlock(p) && (t == -1 || isTransaction(t)));
        argument(in(v, 1, 60) && leader(v) == 3);
        Peer liar = peers[3];
        Blk parent = blocks.get(p);
        state(liar.up && liar.keys < 32 && liar.knows(parent));
        state(parent.certified && parent.view < v && blocks.size() < 100);
        Blk b = newBlock(v, parent, t);
        liar.learn(b);
        liar.sendSigned(1, b, 0, i);
        return b.number;
    }

    public boolean lieVote(int i, int b) {
        argument(in(i, 0, 3) && isBlock(b));
        state(peers[3].up && peers[3].keys < 32 && b != 0);
        peers[3].sendSigned(2, blocks.get(b), 0, i);
        return true;
    }

    public int tick() {
        clock++;
        for (Peer n : peers) {
            if (n.up && --n.timer == 0) {
                n.voted = Math.max(n.voted, n.view);
                n.sendSigned(3, n.high, n.view, 0, 1, 2, 3);
                n.span = Math.min(24, n.span * 2);
                n.timer = n.span;
            }
        }
        return clock;
    }

    public boolean crash(int i) {
        argument(in(i, 0, 3));
        Peer n = peers[i];
        state(n.up);
        n.up = false;
        n.coming.clear();
        n.votes.clear();
        n.timeouts.clear();
        n.pool.clear();
        return true;
    }

    public boolean restart(int i) {
        argument(in(i, 0, 3));
        Peer n = peers[i];
        state(!n.up);
        n.up = true;
        n.high = blocks.get(0);
        n.has.values().stream().filter(b -> b.parent != null).map(b -> b.parent)
                .sorted((a, b) -> a.view != b.view ? b.view - a.view : a.number - b.number)
                .findFirst().ifPresent(b -> n.high = b);
        n.view = Math.max(1, n.voted);
        n.timer = 6;
        n.span = 6;
        return true;
    }

    public int node(int i, int what) {
        if (!in(i, 0, 3) || !in(what, 0, 11)) {
            return -1;
        }
        Peer n = peers[i];
        if (!n.up && (in(what, 1, 4) || what == 10)) {
            return 0;
        }
        return new int[] {n.up ? 1 : 0, n.view, n.timer, n.span, n.high.number, n.voted,
            n.locked.number, n.keys, n.log.size(), n.has.size(), n.pool.size(), n.coming.size()}[what];
    }

    public int log(int i, int k) {
        return in(i, 0, 3) && in(k, 0, peers[i].log.size() - 1) ? peers[i].log.get(k).number : -1;
    }

    public int account(int i, int a, int what) {
        if (!in(i, 0, 3) || !in(a, 0, 3) || !in(what, 0, 1)) {
            return -1;
        }
        return what == 0 ? peers[i].money[a] : peers[i].nonce[a];
    }

    public int block(int b, int what) {
        if (!isBlock(b) || !in(what, 0, 4)) {
            return -1;
        }
        Blk x = blocks.get(b);
        int bits = 0;
        for (Peer n : peers) {
            bits += n.knows(x) ? 1 << n.id : 0;
        }
        int parent = x.parent == null ? -1 : x.parent.number;
        return new int[] {x.view, parent, x.tx, x.certified ? 1 : 0, bits}[what];
    }

    public int message(int i, int k, int what) {
        if (!in(i, 0, 3) || !in(what, 0, 4) || !in(k, 0, peers[i].coming.size() - 1)) {
            return -1;
        }
        Msg m = new ArrayList<>(peers[i].coming).get(k);
        return new int[] {m.kind(), m.sender(), m.block().number, m.view(), m.key()}[what];
    }

    public long root(int i) {
        return in(i, 0, 3) ? peers[i].root : 0;
    }

    public int about(int what) {
        return in(what, 0, 2) ? new int[] {clock, blocks.size(), transactions.size()}[what] : -1;
    }
}
