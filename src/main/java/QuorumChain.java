/**
 * Four nodes that agree on a chain of blocks though one of them lies, messages are lost, kept back
 * and copied, and nodes crash. The document says what each call does; the words used here are its.
 *
 * <p>All rows are made by the constructor and used again: no call makes anything but its exception.
 */
public final class QuorumChain {
    public static final int NONE = -1;

    private static final int NODES = 4;
    private static final int LIAR = 3;
    private static final int QUORUM = 3;
    private static final int VIEWS_A_LEADER = 4;
    private static final int LAST_VIEW_TO_LIE_ABOUT = 60;
    // Past view 60 each new view takes three of the 128 signatures, so no view comes near this.
    private static final int MAX_VIEWS = 128;
    private static final int MAX_BLOCKS = 100;
    private static final int MAX_TRANSACTIONS = 40;
    private static final int MAX_ON_THE_WAY = 16;
    private static final int MAX_AMOUNT = 1000;
    private static final int FIRST_VIEW = 1;
    private static final int FIRST_SPAN = 6;
    private static final int LAST_SPAN = 24;
    private static final int ACCOUNTS = 4;
    private static final int FIRST_MONEY = 100;

    private static final int KEYS = 32;
    private static final int CHAINS = 6;
    private static final int SIDES = 5;
    private static final int CHAIN_STEPS = 15;

    private static final int PROPOSAL = 1;
    private static final int VOTE = 2;
    private static final int TIMEOUT = 3;
    private static final int ASK = 4;
    private static final int BLOCK = 5;

    private final Node[] nodes = new Node[NODES];
    private final Blocks blocks = new Blocks();
    private final Transactions transactions = new Transactions();
    private final Message draft = new Message();
    private final Message arrived = new Message();
    private int clock;
    private boolean begun;

    public QuorumChain(int seed) {
        for (int i = 0; i < NODES; i++) {
            nodes[i] = new Node(seed, i);
        }
    }

    public int transaction(int from, int to, int amount, int nonce)
            throws IllegalArgumentException, IllegalStateException {
        if (!isAccount(from) || !isAccount(to)) {
            throw new IllegalArgumentException("no such account");
        }
        if (amount < 0 || amount > MAX_AMOUNT || nonce < 0 || nonce > MAX_AMOUNT) {
            throw new IllegalArgumentException("amount or nonce out of range");
        }
        if (transactions.count >= MAX_TRANSACTIONS) {
            throw new IllegalStateException("no room for a transaction");
        }
        return transactions.add(from, to, amount, nonce);
    }

    public boolean submit(int i, int t) throws IllegalArgumentException, IllegalStateException {
        if (!isNode(i) || !transactions.exists(t)) {
            throw new IllegalArgumentException("no such node or transaction");
        }
        if (!nodes[i].up) {
            throw new IllegalStateException("the node is down");
        }
        return nodes[i].addToPool(t);
    }

    public boolean begin() throws IllegalStateException {
        Node first = nodes[0];
        if (begun || !first.up || first.view != FIRST_VIEW) {
            throw new IllegalStateException("node 0 can not begin");
        }
        begun = true;
        propose(first);
        return true;
    }

    public int deliver(int i) throws IllegalArgumentException, IllegalStateException {
        if (!isNode(i)) {
            throw new IllegalArgumentException("no such node");
        }
        Node n = nodes[i];
        if (n.inbox.count == 0) {
            throw new IllegalStateException("no message");
        }
        // A copy: what the node sends to itself may use the arrived message's place again.
        arrived.copyFrom(n.inbox.first());
        n.inbox.dropFirst();
        if (n.up && isHeard(arrived)) {
            switch (arrived.kind) {
                case PROPOSAL: receiveProposal(n, arrived.sender, arrived.block); break;
                case VOTE: receiveVote(n, arrived.sender, arrived.block); break;
                case TIMEOUT: receiveTimeout(n, arrived.sender, arrived.view, arrived.block); break;
                case ASK: receiveAsk(n, arrived.sender, arrived.block); break;
                default: receiveBlock(n, arrived.sender, arrived.block); break;
            }
        }
        return arrived.kind;
    }

    public boolean disturb(int i, int how) throws IllegalArgumentException, IllegalStateException {
        if (!isNode(i) || how < 0 || how > 2) {
            throw new IllegalArgumentException("no such node or way to disturb");
        }
        Inbox inbox = nodes[i].inbox;
        if (inbox.count == 0 || (how == 2 && inbox.count >= MAX_ON_THE_WAY)) {
            throw new IllegalStateException("no message, or no room for its copy");
        }
        if (how == 0) {
            inbox.dropFirst();
        } else if (how == 1) {
            inbox.moveFirstBehind();
        } else {
            inbox.add(inbox.first());
        }
        return true;
    }

    public boolean alter(int i, int which, long mask)
            throws IllegalArgumentException, IllegalStateException {
        if (!isNode(i) || which < 0 || which >= CHAINS + SIDES) {
            throw new IllegalArgumentException("no such node or long of a signature");
        }
        Inbox inbox = nodes[i].inbox;
        if (inbox.count == 0 || inbox.first().key == NONE) {
            throw new IllegalStateException("no signed message");
        }
        inbox.first().signature[which] ^= mask;
        return true;
    }

    public int lie(int i, int v, int p, int t)
            throws IllegalArgumentException, IllegalStateException {
        if (!isNode(i) || !blocks.exists(p) || (t != NONE && !transactions.exists(t))) {
            throw new IllegalArgumentException("no such node, block or transaction");
        }
        if (v < FIRST_VIEW || v > LAST_VIEW_TO_LIE_ABOUT || leaderOf(v) != LIAR) {
            throw new IllegalArgumentException("not a view of the lying node");
        }
        Node liar = nodes[LIAR];
        if (!liar.up || !liar.store.keys.isLeft() || !liar.store.hasBlock(p)) {
            throw new IllegalStateException("the lying node is down, has no key or not the parent");
        }
        if (!blocks.isCertified(p) || blocks.viewOf(p) >= v || blocks.count >= MAX_BLOCKS) {
            throw new IllegalStateException("not a parent for that view, or no room for a block");
        }
        int b = blocks.add(v, p, t);
        liar.store.keepBlock(b);
        if (writeSigned(liar, PROPOSAL, b, 0)) {
            nodes[i].inbox.add(draft);
        }
        return b;
    }

    public boolean lieVote(int i, int b) throws IllegalArgumentException, IllegalStateException {
        if (!isNode(i) || !blocks.exists(b)) {
            throw new IllegalArgumentException("no such node or block");
        }
        Node liar = nodes[LIAR];
        if (!liar.up || !liar.store.keys.isLeft() || b == 0) {
            throw new IllegalStateException("the lying node can not vote");
        }
        if (writeSigned(liar, VOTE, b, 0)) {
            nodes[i].inbox.add(draft);
        }
        return true;
    }

    public int tick() {
        clock++;
        for (int i = 0; i < NODES; i++) {
            if (nodes[i].up) {
                countDown(nodes[i]);
            }
        }
        return clock;
    }

    public boolean crash(int i) throws IllegalArgumentException, IllegalStateException {
        if (!isNode(i)) {
            throw new IllegalArgumentException("no such node");
        }
        if (!nodes[i].up) {
            throw new IllegalStateException("the node is down");
        }
        nodes[i].fall();
        return true;
    }

    public boolean restart(int i) throws IllegalArgumentException, IllegalStateException {
        if (!isNode(i)) {
            throw new IllegalArgumentException("no such node");
        }
        if (nodes[i].up) {
            throw new IllegalStateException("the node is up");
        }
        nodes[i].rise(highestParent(nodes[i].store));
        return true;
    }

    public int node(int i, int what) {
        if (!isNode(i)) {
            return NONE;
        }
        Node n = nodes[i];
        switch (what) {
            case 0: return n.up ? 1 : 0;
            case 1: return n.up ? n.view : 0;
            case 2: return n.up ? n.timer : 0;
            case 3: return n.up ? n.span : 0;
            case 4: return n.up ? n.high : 0;
            case 5: return n.store.voted;
            case 6: return n.store.locked;
            case 7: return n.store.keys.used;
            case 8: return n.store.logLength;
            case 9: return n.store.blockCount;
            case 10: return n.up ? n.poolSize : 0;
            case 11: return n.inbox.count;
            default: return NONE;
        }
    }

    public int log(int i, int k) {
        return isNode(i) ? nodes[i].store.logged(k) : NONE;
    }

    public int account(int i, int a, int what) {
        if (!isNode(i) || !isAccount(a)) {
            return NONE;
        }
        Accounts accounts = nodes[i].store.accounts;
        switch (what) {
            case 0: return accounts.money[a];
            case 1: return accounts.nonce[a];
            default: return NONE;
        }
    }

    public int block(int b, int what) {
        if (!blocks.exists(b)) {
            return NONE;
        }
        switch (what) {
            case 0: return blocks.viewOf(b);
            case 1: return blocks.parentOf(b);
            case 2: return blocks.transactionOf(b);
            case 3: return blocks.isCertified(b) ? 1 : 0;
            case 4: return nodesThatHave(b);
            default: return NONE;
        }
    }

    public int message(int i, int k, int what) {
        if (!isNode(i) || k < 0 || k >= nodes[i].inbox.count) {
            return NONE;
        }
        Message m = nodes[i].inbox.row[k];
        switch (what) {
            case 0: return m.kind;
            case 1: return m.sender;
            case 2: return m.block;
            case 3: return m.view;
            case 4: return m.key;
            default: return NONE;
        }
    }

    public long root(int i) {
        return isNode(i) ? nodes[i].store.keys.top() : 0;
    }

    public int about(int what) {
        switch (what) {
            case 0: return clock;
            case 1: return blocks.count;
            case 2: return transactions.count;
            default: return NONE;
        }
    }

    private static boolean isNode(int i) {
        return i >= 0 && i < NODES;
    }

    private static boolean isAccount(int a) {
        return a >= 0 && a < ACCOUNTS;
    }

    private static int leaderOf(int v) {
        return v < FIRST_VIEW ? NONE : (v - FIRST_VIEW) / VIEWS_A_LEADER % NODES;
    }

    private int nodesThatHave(int b) {
        int bits = 0;
        for (int i = 0; i < NODES; i++) {
            if (nodes[i].store.hasBlock(b)) {
                bits |= 1 << i;
            }
        }
        return bits;
    }

    private int highestParent(Store store) {
        int best = 0;
        for (int b = 1; b < blocks.count; b++) {
            int p = blocks.parentOf(b);
            boolean higher = blocks.isAbove(p, best);
            boolean lesser = p < best && blocks.viewOf(p) == blocks.viewOf(best);
            if (store.hasBlock(b) && (higher || lesser)) {
                best = p;
            }
        }
        return best;
    }

    private boolean isHeard(Message m) {
        if (m.kind == ASK || m.kind == BLOCK) {
            return true;
        }
        if (m.kind == PROPOSAL && leaderOf(blocks.viewOf(m.block)) != m.sender) {
            return false;
        }
        return isNode(m.sender) && nodes[m.sender].store.keys.isGood(m);
    }

    private void receiveProposal(Node n, int sender, int b) {
        int p = blocks.parentOf(b);
        if (!n.store.hasBlock(p)) {
            sendUnsigned(n, ASK, p, sender);
            return;
        }
        n.store.keepBlock(b);
        takeAsCertified(n, p);
        if (mayVoteFor(n, b, p)) {
            voteFor(n, b, p);
        }
    }

    private void takeAsCertified(Node n, int p) {
        raiseHigh(n, p);
        int q = blocks.parentOf(p);
        if (q == NONE) {
            return;
        }
        if (blocks.isAbove(q, n.store.locked)) {
            n.store.locked = q;
        }
        int r = blocks.parentOf(q);
        if (r != NONE && blocks.isNextView(p, q) && blocks.isNextView(q, r)) {
            commitUpTo(n.store, r);
        }
    }

    private void raiseHigh(Node n, int b) {
        if (blocks.isAbove(b, n.high)) {
            n.high = b;
        }
    }

    private boolean mayVoteFor(Node n, int b, int p) {
        int v = blocks.viewOf(b);
        if (v <= n.store.voted || v < n.view) {
            return false;
        }
        int locked = n.store.locked;
        return blocks.isBelow(locked, b) || blocks.isAbove(p, locked);
    }

    private void voteFor(Node n, int b, int p) {
        if (blocks.isNextView(b, p)) {
            n.span = FIRST_SPAN;
        }
        int v = blocks.viewOf(b);
        n.enter(v);
        n.store.voted = v;
        int next = leaderOf(v + 1);
        if (isNode(next) && writeSigned(n, VOTE, b, 0)) {
            nodes[next].inbox.add(draft);
        }
    }

    private void receiveVote(Node n, int sender, int b) {
        int next = blocks.viewOf(b) + 1;
        if (!n.store.hasBlock(b) || leaderOf(next) != n.id) {
            return;
        }
        if (n.votes.keep(b, sender) != QUORUM) {
            return;
        }
        blocks.certify(b);
        if (next >= n.view && blocks.isAbove(b, n.high)) {
            n.high = b;
            n.enter(next);
            propose(n);
        }
    }

    private void receiveTimeout(Node n, int sender, int v, int h) {
        if (n.store.hasBlock(h) && blocks.isCertified(h)) {
            raiseHigh(n, h);
        }
        if (n.timeouts.keep(v, sender) != QUORUM || v < n.view) {
            return;
        }
        n.enter(v + 1);
        if (leaderOf(n.view) == n.id) {
            propose(n);
        }
    }

    private void receiveAsk(Node n, int sender, int b) {
        if (n.store.hasBlock(b)) {
            sendUnsigned(n, BLOCK, b, sender);
        }
    }

    private void receiveBlock(Node n, int sender, int b) {
        int p = blocks.parentOf(b);
        if (n.store.hasBlock(p)) {
            n.store.keepBlock(b);
        } else {
            sendUnsigned(n, ASK, p, sender);
        }
    }

    private void propose(Node n) {
        if (blocks.count >= MAX_BLOCKS) {
            return;
        }
        int b = blocks.add(n.view, n.high, firstNewTransaction(n));
        n.store.keepBlock(b);
        if (writeSigned(n, PROPOSAL, b, 0)) {
            sendDraftToAll();
        }
    }

    private int firstNewTransaction(Node n) {
        for (int k = 0; k < n.poolSize; k++) {
            if (!blocks.isInChain(n.pool[k], n.high)) {
                return n.pool[k];
            }
        }
        return NONE;
    }

    private void countDown(Node n) {
        n.timer--;
        if (n.timer > 0) {
            return;
        }
        n.store.voted = Math.max(n.store.voted, n.view);
        if (writeSigned(n, TIMEOUT, n.high, n.view)) {
            sendDraftToAll();
        }
        n.span = Math.min(2 * n.span, LAST_SPAN);
        n.timer = n.span;
    }

    private void commitUpTo(Store store, int r) {
        int more = blocks.stepsDown(r, store.lastLogged());
        int length = store.logLength;
        if (more == NONE || length + more > MAX_BLOCKS) {
            return;
        }
        int b = r;
        for (int k = length + more - 1; k >= length; k--) {
            store.log[k] = b;
            b = blocks.parentOf(b);
        }
        store.logLength = length + more;
        for (int k = length; k < length + more; k++) {
            transactions.carryOut(blocks.transactionOf(store.log[k]), store.accounts);
        }
    }

    private void sendUnsigned(Node from, int kind, int b, int to) {
        draft.write(kind, from.id, b, 0);
        if (isNode(to)) {
            nodes[to].inbox.add(draft);
        }
    }

    // False, and nothing to send, when the keys are used.
    private boolean writeSigned(Node from, int kind, int b, int v) {
        draft.write(kind, from.id, b, v);
        return from.store.keys.sign(draft);
    }

    private void sendDraftToAll() {
        for (int i = 0; i < NODES; i++) {
            nodes[i].inbox.add(draft);
        }
    }

    private static final class Fold {
        private static final long START = -7046029254386353131L;
        private static final long MIX = -4417276706812531889L;
        private static final long LAST_MIX = 1609587929392839161L;
        private static final long STEP = 77;

        static long absorb(long h, long v) {
            long mixed = (h ^ v) * MIX;
            return mixed ^ (mixed >>> 29);
        }

        static long finish(long h) {
            long mixed = h * LAST_MIX;
            return mixed ^ (mixed >>> 32);
        }

        static long pair(long a, long b) {
            return finish(absorb(absorb(START, a), b));
        }

        static long afterSteps(long v, int steps) {
            long h = v;
            for (int s = 0; s < steps; s++) {
                h = finish(absorb(absorb(START, h), STEP));
            }
            return h;
        }
    }

    private static final class Message {
        final long[] signature = new long[CHAINS + SIDES];
        int kind;
        int sender;
        int block;
        int view;
        int key = NONE;

        void write(int newKind, int newSender, int newBlock, int newView) {
            kind = newKind;
            sender = newSender;
            block = newBlock;
            view = newView;
            key = NONE;
        }

        void copyFrom(Message other) {
            write(other.kind, other.sender, other.block, other.view);
            key = other.key;
            System.arraycopy(other.signature, 0, signature, 0, CHAINS + SIDES);
        }

        long meaning() {
            long h = Fold.absorb(Fold.START, kind);
            if (kind == TIMEOUT) {
                h = Fold.absorb(h, view);
            }
            return Fold.finish(Fold.absorb(h, block));
        }
    }

    private static final class Inbox {
        // The messages on the way stand first, in order; those behind them are free to be used.
        final Message[] row = new Message[MAX_ON_THE_WAY];
        int count;

        Inbox() {
            for (int k = 0; k < MAX_ON_THE_WAY; k++) {
                row[k] = new Message();
            }
        }

        Message first() {
            return row[0];
        }

        void add(Message m) {
            if (count < MAX_ON_THE_WAY) {
                row[count].copyFrom(m);
                count++;
            }
        }

        void moveFirstBehind() {
            Message moved = row[0];
            for (int k = 1; k < count; k++) {
                row[k - 1] = row[k];
                row[k] = moved;
            }
        }

        void dropFirst() {
            if (count > 0) {
                moveFirstBehind();
                count--;
            }
        }
    }

    private static final class KeyTree {
        // Number 1 is the root, 2n and 2n + 1 lie under n, and the leaves are the last KEYS.
        private final long[] tree = new long[2 * KEYS];
        private final int seed;
        private final int owner;
        int used;

        KeyTree(int seed, int owner) {
            this.seed = seed;
            this.owner = owner;
            for (int k = 0; k < KEYS; k++) {
                tree[KEYS + k] = leafOf(seed, owner, k);
            }
            for (int at = KEYS - 1; at > 0; at--) {
                tree[at] = Fold.pair(tree[2 * at], tree[2 * at + 1]);
            }
        }

        long top() {
            return tree[1];
        }

        boolean isLeft() {
            return used < KEYS;
        }

        boolean sign(Message m) {
            if (!isLeft()) {
                return false;
            }
            m.key = used;
            used++;
            int digits = digitsOf(m.meaning());
            for (int c = 0; c < CHAINS; c++) {
                m.signature[c] = Fold.afterSteps(secretOf(seed, owner, m.key, c), digit(digits, c));
            }
            int at = KEYS + m.key;
            for (int row = 0; row < SIDES; row++) {
                m.signature[CHAINS + row] = tree[at ^ 1];
                at >>= 1;
            }
            return true;
        }

        boolean isGood(Message m) {
            int digits = digitsOf(m.meaning());
            long h = Fold.START;
            for (int c = 0; c < CHAINS; c++) {
                h = Fold.absorb(h, Fold.afterSteps(m.signature[c], CHAIN_STEPS - digit(digits, c)));
            }
            h = Fold.finish(h);
            int at = KEYS + m.key;
            for (int row = 0; row < SIDES; row++) {
                long side = m.signature[CHAINS + row];
                h = (at & 1) == 0 ? Fold.pair(h, side) : Fold.pair(side, h);
                at >>= 1;
            }
            return h == top();
        }

        private static long leafOf(int seed, int owner, int k) {
            long h = Fold.START;
            for (int c = 0; c < CHAINS; c++) {
                h = Fold.absorb(h, Fold.afterSteps(secretOf(seed, owner, k, c), CHAIN_STEPS));
            }
            return Fold.finish(h);
        }

        private static long secretOf(int seed, int owner, int k, int c) {
            long h = Fold.absorb(Fold.absorb(Fold.START, seed), owner);
            return Fold.finish(Fold.absorb(Fold.absorb(h, k), c));
        }

        // Six digits of four bits, digit 0 the lowest: the last two weigh against the first four,
        // so that no digit can be raised by steps without another one falling.
        private static int digitsOf(long meaning) {
            int low = (int) (Fold.finish(Fold.absorb(Fold.START, meaning)) & 0xFFFF);
            int sum = 0;
            for (int c = 0; c < 4; c++) {
                sum += digit(low, c);
            }
            return low | (60 - sum) << 16;
        }

        private static int digit(int digits, int c) {
            return (digits >>> 4 * c) & 15;
        }
    }

    private static final class Blocks {
        private final int[] view = new int[MAX_BLOCKS];
        private final int[] parent = new int[MAX_BLOCKS];
        private final int[] carried = new int[MAX_BLOCKS];
        private final boolean[] certified = new boolean[MAX_BLOCKS];
        int count;

        Blocks() {
            parent[0] = NONE;
            carried[0] = NONE;
            certified[0] = true;
            count = 1;
        }

        boolean exists(int b) {
            return b >= 0 && b < count;
        }

        int add(int v, int p, int t) {
            if (count >= MAX_BLOCKS) {
                return NONE;
            }
            view[count] = v;
            parent[count] = p;
            carried[count] = t;
            count++;
            return count - 1;
        }

        int viewOf(int b) {
            return exists(b) ? view[b] : NONE;
        }

        int parentOf(int b) {
            return exists(b) ? parent[b] : NONE;
        }

        int transactionOf(int b) {
            return exists(b) ? carried[b] : NONE;
        }

        boolean isCertified(int b) {
            return exists(b) && certified[b];
        }

        void certify(int b) {
            if (exists(b)) {
                certified[b] = true;
            }
        }

        boolean isAbove(int b, int other) {
            return viewOf(b) > viewOf(other);
        }

        boolean isNextView(int b, int other) {
            return viewOf(b) == viewOf(other) + 1;
        }

        boolean isBelow(int low, int high) {
            return stepsDown(high, low) > 0;
        }

        // How many parents lead from one block down to the other; NONE when none do.
        int stepsDown(int from, int to) {
            int b = from;
            for (int steps = 0; steps < MAX_BLOCKS && b != NONE; steps++) {
                if (b == to) {
                    return steps;
                }
                b = parentOf(b);
            }
            return NONE;
        }

        boolean isInChain(int t, int from) {
            int b = from;
            for (int steps = 0; steps < MAX_BLOCKS && b != NONE; steps++) {
                if (transactionOf(b) == t) {
                    return true;
                }
                b = parentOf(b);
            }
            return false;
        }
    }

    private static final class Transactions {
        private final int[] from = new int[MAX_TRANSACTIONS];
        private final int[] to = new int[MAX_TRANSACTIONS];
        private final int[] amount = new int[MAX_TRANSACTIONS];
        private final int[] nonce = new int[MAX_TRANSACTIONS];
        int count;

        boolean exists(int t) {
            return t >= 0 && t < count;
        }

        int add(int newFrom, int newTo, int newAmount, int newNonce) {
            if (count >= MAX_TRANSACTIONS) {
                return NONE;
            }
            from[count] = newFrom;
            to[count] = newTo;
            amount[count] = newAmount;
            nonce[count] = newNonce;
            count++;
            return count - 1;
        }

        void carryOut(int t, Accounts accounts) {
            if (exists(t)) {
                accounts.move(from[t], to[t], amount[t], nonce[t]);
            }
        }
    }

    private static final class Accounts {
        final int[] money = new int[ACCOUNTS];
        final int[] nonce = new int[ACCOUNTS];

        Accounts() {
            for (int a = 0; a < ACCOUNTS; a++) {
                money[a] = FIRST_MONEY;
            }
        }

        void move(int from, int to, int amount, int expected) {
            if (!isAccount(from) || !isAccount(to)) {
                return;
            }
            if (nonce[from] == expected && money[from] >= amount) {
                money[from] -= amount;
                money[to] += amount;
                nonce[from]++;
            }
        }
    }

    /** What outlasts crashes. */
    private static final class Store {
        private final boolean[] has = new boolean[MAX_BLOCKS];
        final int[] log = new int[MAX_BLOCKS];
        final Accounts accounts = new Accounts();
        final KeyTree keys;
        int blockCount;
        int logLength;
        int voted;
        int locked;

        Store(int seed, int owner) {
            keys = new KeyTree(seed, owner);
            has[0] = true;
            blockCount = 1;
            logLength = 1;
        }

        boolean hasBlock(int b) {
            return b >= 0 && b < MAX_BLOCKS && has[b];
        }

        void keepBlock(int b) {
            if (b >= 0 && b < MAX_BLOCKS && !has[b]) {
                has[b] = true;
                blockCount++;
            }
        }

        int logged(int k) {
            return k >= 0 && k < logLength ? log[k] : NONE;
        }

        int lastLogged() {
            return logged(logLength - 1);
        }
    }

    /** Who has spoken for each block or view, as bits. */
    private static final class Tally {
        private final int[] bits;

        Tally(int size) {
            bits = new int[size];
        }

        // How many there are with this one; 0 when it was kept before.
        int keep(int at, int sender) {
            if (at < 0 || at >= bits.length) {
                return 0;
            }
            int before = bits[at];
            bits[at] = before | 1 << sender;
            return bits[at] == before ? 0 : Integer.bitCount(bits[at]);
        }

        void empty() {
            for (int k = 0; k < bits.length; k++) {
                bits[k] = 0;
            }
        }
    }

    private static final class Node {
        final int id;
        final Store store;
        final Inbox inbox = new Inbox();
        final Tally votes = new Tally(MAX_BLOCKS);
        final Tally timeouts = new Tally(MAX_VIEWS);
        final int[] pool = new int[MAX_TRANSACTIONS];
        int poolSize;
        boolean up = true;
        int view = FIRST_VIEW;
        int timer = FIRST_SPAN;
        int span = FIRST_SPAN;
        int high;

        Node(int seed, int id) {
            this.id = id;
            store = new Store(seed, id);
        }

        boolean addToPool(int t) {
            for (int k = 0; k < poolSize; k++) {
                if (pool[k] == t) {
                    return false;
                }
            }
            if (poolSize >= MAX_TRANSACTIONS) {
                return false;
            }
            pool[poolSize] = t;
            poolSize++;
            return true;
        }

        void enter(int v) {
            view = v;
            timer = span;
        }

        void fall() {
            up = false;
            inbox.count = 0;
            votes.empty();
            timeouts.empty();
            poolSize = 0;
        }

        void rise(int highest) {
            up = true;
            high = highest;
            span = FIRST_SPAN;
            enter(Math.max(store.voted, FIRST_VIEW));
        }
    }
}
