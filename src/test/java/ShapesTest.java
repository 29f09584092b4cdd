import java.util.ArrayList;
import java.util.List;

/** Promises 2 to 6: shape, row, conjugate, rank, unrank. Their boundary cases: ShapesEdgesTest. */
final class ShapesTest {
    public static void main(String[] args) {
        shapes();
        rows();
        conjugates();
        for (int n = 0; n <= 24; n++) {
            ranksOf(n);
        }
        Check.end();
    }

    private static void shapes() {
        Bench b = new Bench();
        Check.isTrue("slot 3", b.shape(3, Check.bytes(5, 2, 2, 1)));
        Check.text("slot 3", Check.slot(b, 3), "5 2 2 1");
        Check.isTrue("slot 0", b.shape(0, Check.bytes(4, 4)));
        Check.text("slot 0", Check.slot(b, 0), "4 4");
        Check.text("slot 3 stays", Check.slot(b, 3), "5 2 2 1");
        Check.isTrue("slot 3 anew", b.shape(3, Check.bytes(1, 1)));
        Check.text("slot 3 anew", Check.slot(b, 3), "1 1");
    }

    private static void rows() {
        Bench b = Check.benchWith(Check.of(5, 4, 4, 3, 2, 1, 1, 1));
        int[] due = {5, 4, 4, 3, 2, 1, 1, 1};
        for (int i = 0; i < 8; i++) {
            Check.same("row " + i, b.row(0, i), due[i]);
        }
    }

    private static void conjugates() {
        Bench b = Check.benchWith(Check.of(4, 2, 1), Check.of(3, 3));
        Check.isTrue("conjugate", b.conjugate(0));
        Check.text("conjugate", Check.slot(b, 0), "3 2 1 1");
        Check.isTrue("conjugate back", b.conjugate(0));
        Check.text("conjugate back", Check.slot(b, 0), "4 2 1");
        Check.isTrue("3 3", b.conjugate(1));
        Check.text("3 3", Check.slot(b, 1), "2 2 2");
    }

    /** Every shape of n boxes has the rank that the order of them all gives it, and back. */
    private static void ranksOf(int n) {
        List<List<Integer>> order = new ArrayList<>();
        PlainBench.partitions(n, n, new ArrayList<>(), order);
        for (int rank = 0; rank < order.size(); rank++) {
            rankOf(n, rank, order.get(rank));
        }
    }

    private static void rankOf(int n, int rank, List<Integer> rows) {
        Bench b = Check.benchWith(Check.of(2, 1));
        if (rows.size() > 8) {
            Check.raises("unrank of " + rows, UnsupportedOperationException.class,
                    () -> b.unrank(0, n, rank));
            Check.text("nothing changed", Check.slot(b, 0), "2 1");
            return;
        }
        b.unrank(0, n, rank);
        Check.text("unrank " + n + " " + rank, Check.slot(b, 0), PlainBench.spaced(rows));
        b.shape(2, PlainBench.bytes(rows));
        Check.same("rank of " + rows, b.rank(2), rank);
    }
}
