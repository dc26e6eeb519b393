/**
 * A signature as the document tells it. Each step of FOLD can be undone, so two of its longs can be altered in
 * such a way that the second makes up for the first: what is good then tells the digits, the parts and the sides.
 */
final class Signed {
    private static final long START = -7046029254386353131L;
    private static final long MIX = -4417276706812531889L;
    private static final long LAST_MIX = 1609587929392839161L;

    final int[] digits = new int[6];
    private final int key;
    private final long[] parts = new long[6];
    private final long[] ends = new long[6];
    private final long[] sides = new long[5];

    Signed(long seed, int node, int key, long m) {
        this.key = key;
        long low = NaiveChain.fold(m) & 65535;
        int rest = 60;
        for (int c = 0; c < 4; c++) {
            digits[c] = (int) (low % 16);
            rest -= digits[c];
            low /= 16;
        }
        digits[4] = rest % 16;
        digits[5] = rest / 16;
        for (int c = 0; c < 6; c++) {
            parts[c] = stepped(NaiveChain.fold(seed, node, key, c), digits[c]);
            ends[c] = stepped(parts[c], 15 - digits[c]);
        }
        findSides(seed, node);
    }

    private void findSides(long seed, int node) {
        long[] row = new long[32];
        for (int k = 0; k < 32; k++) {
            long[] of = new long[6];
            for (int c = 0; c < 6; c++) {
                of[c] = stepped(NaiveChain.fold(seed, node, k, c), 15);
            }
            row[k] = NaiveChain.fold(of);
        }
        int at = key;
        for (int r = 0; r < 5; r++) {
            sides[r] = row[at % 2 == 0 ? at + 1 : at - 1];
            for (int k = 0; k < row.length / 2; k++) {
                row[k] = NaiveChain.fold(row[2 * k], row[2 * k + 1]);
            }
            at /= 2;
        }
    }

    /** What part c + 1 is to be altered by, when part c is altered by the mask. */
    long nextPartsMask(int c, long mask) {
        long h = START;
        for (int before = 0; before < c; before++) {
            h = absorb(h, ends[before]);
        }
        long changed = absorb(h, stepped(parts[c] ^ mask, 15 - digits[c]));
        long end = ends[c + 1] ^ absorb(h, ends[c]) ^ changed;
        return parts[c + 1] ^ steppedBack(end, 15 - digits[c + 1]);
    }

    /** What the side of a row is to be altered by, when part 5 is altered by the mask. */
    long sidesMask(int row, long mask) {
        long[] changed = ends.clone();
        changed[5] = stepped(parts[5] ^ mask, 15 - digits[5]);
        long now = NaiveChain.fold(changed);
        long was = NaiveChain.fold(ends);
        for (int r = 0; r < row; r++) {
            now = paired(now, r);
            was = paired(was, r);
        }
        if ((key >> row) % 2 == 0) {
            return absorb(START, was) ^ absorb(START, now);
        }
        long left = absorb(START, sides[row]) ^ was ^ now;
        return sides[row] ^ START ^ unmixed(left);
    }

    private long paired(long h, int row) {
        return (key >> row) % 2 == 0 ? NaiveChain.fold(h, sides[row]) : NaiveChain.fold(sides[row], h);
    }

    private static long stepped(long v, int steps) {
        long h = v;
        for (int s = 0; s < steps; s++) {
            h = NaiveChain.fold(h, 77);
        }
        return h;
    }

    private static long steppedBack(long v, int steps) {
        long h = v;
        for (int s = 0; s < steps; s++) {
            h = START ^ unmixed(77 ^ unmixed(unshifted(h, 32) * inverse(LAST_MIX)));
        }
        return h;
    }

    private static long absorb(long h, long v) {
        long mixed = (h ^ v) * MIX;
        return mixed ^ (mixed >>> 29);
    }

    /** What was given to be mixed: h ^ v of absorb. */
    private static long unmixed(long mixed) {
        return unshifted(mixed, 29) * inverse(MIX);
    }

    private static long unshifted(long v, int by) {
        long h = v;
        for (int done = by; done < 64; done += by) {
            h = v ^ (h >>> by);
        }
        return h;
    }

    private static long inverse(long odd) {
        long x = odd;
        for (int k = 0; k < 6; k++) {
            x *= 2 - odd * x;
        }
        return x;
    }
}
