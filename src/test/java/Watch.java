import java.util.ArrayList;
import java.util.List;

/** Reads all that the face shows, and a little past each edge of it. */
final class Watch {
    /** The calls that only answer. */
    interface Readable {
        int node(int i, int what);

        int log(int i, int k);

        int account(int i, int a, int what);

        int block(int b, int what);

        int message(int i, int k, int what);

        long root(int i);

        int about(int what);
    }

    private Watch() {
    }

    static List<Long> all(Readable x) {
        List<Long> row = new ArrayList<>();
        for (int what = -1; what <= 3; what++) {
            row.add((long) x.about(what));
        }
        for (int i = -1; i <= 4; i++) {
            addNode(row, x, i);
        }
        int blocks = x.about(1);
        for (int b = -1; b <= blocks; b++) {
            for (int what = -1; what <= 5; what++) {
                row.add((long) x.block(b, what));
            }
        }
        return row;
    }

    private static void addNode(List<Long> row, Readable x, int i) {
        row.add(x.root(i));
        for (int what = -1; what <= 12; what++) {
            row.add((long) x.node(i, what));
        }
        int logged = Math.max(0, x.node(i, 8));
        for (int k = -1; k <= logged; k++) {
            row.add((long) x.log(i, k));
        }
        for (int a = -1; a <= 4; a++) {
            for (int what = -1; what <= 2; what++) {
                row.add((long) x.account(i, a, what));
            }
        }
        int coming = Math.max(0, x.node(i, 11));
        for (int k = -1; k <= coming; k++) {
            for (int what = -1; what <= 5; what++) {
                row.add((long) x.message(i, k, what));
            }
        }
    }
}
