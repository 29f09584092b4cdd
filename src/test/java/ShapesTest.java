import java.util.ArrayList;
import java.util.List;
import java.util.NoSuchElementException;

/** Promises 2 to 6: shape, row, conjugate, rank, unrank. */
final class ShapesTest {
    public static void main(String[] args) {
        shapes();
        rows();
        conjugates();
        ranks();
        unranks();
        Check.end();
    }

    private static void shapes() {
        TableauBench b = new TableauBench();
        Check.isTrue("24 in a row", b.shape(0, 24));
        Check.same("row 0", b.row(0, 0), 24);
        Check.isFalse("25 in a row", b.shape(0, 25));
        Check.isTrue("3 in each of 8", b.shape(1, Check.bytes(3, 3, 3, 3, 3, 3, 3, 3)));
        Check.same("row 7", b.row(1, 7), 3);
        Check.isFalse("25 in 8 rows", b.shape(1, Check.bytes(4, 3, 3, 3, 3, 3, 3, 3)));
        Check.isFalse("a longer row below", b.shape(1, Check.bytes(2, 3)));
        Check.isFalse("a row behind the last", b.shape(1, Check.bytes(2, 0, 1)));
        Check.isFalse("a longer last row", b.shape(1, Check.bytes(1, 1, 1, 1, 1, 1, 1, 2)));
        Check.isFalse("a byte is not negative", b.shape(1, 255));
        Check.isFalse("all bytes 255", b.shape(1, -1));
        Check.isFalse("the highest byte 128", b.shape(1, Long.MIN_VALUE));
        Check.text("false changes nothing", Check.slot(b, 1), "3 3 3 3 3 3 3 3");
        Check.isTrue("no boxes", b.shape(1, 0));
        Check.text("no boxes", Check.slot(b, 1), "");
        Check.text("slot 0 stays", Check.slot(b, 0), "24");
        Check.isTrue("slot 3", b.shape(3, Check.bytes(5, 2, 2, 1)));
        Check.text("slot 3", Check.slot(b, 3), "5 2 2 1");
    }

    private static void rows() {
        TableauBench b = Check.benchWith(Check.of(3, 2, 2, 1, 1, 1, 1, 1));
        int[] due = {3, 2, 2, 1, 1, 1, 1, 1};
        for (int i = 0; i < 8; i++) {
            Check.same("row " + i, b.row(0, i), due[i]);
        }
        for (int i : new int[] {-1, 8, 9, Integer.MIN_VALUE, Integer.MAX_VALUE}) {
            Check.same("row " + i, b.row(0, i), 0);
        }
    }

    private static void conjugates() {
        TableauBench b = Check.benchWith(Check.of(4, 2, 1), Check.of(9), Check.of(8, 8, 8));
        Check.isTrue("conjugate", b.conjugate(0));
        Check.text("conjugate", Check.slot(b, 0), "3 2 1 1");
        Check.isTrue("conjugate back", b.conjugate(0));
        Check.text("conjugate back", Check.slot(b, 0), "4 2 1");
        Check.isFalse("9 rows", b.conjugate(1));
        Check.text("9 rows", Check.slot(b, 1), "9");
        Check.isTrue("8 rows", b.conjugate(2));
        Check.text("8 rows", Check.slot(b, 2), "3 3 3 3 3 3 3 3");
        Check.isTrue("no boxes", b.conjugate(3));
        Check.text("no boxes", Check.slot(b, 3), "");
    }

    private static void ranks() {
        TableauBench b = new TableauBench();
        for (int n = 0; n <= 24; n++) {
            List<List<Integer>> order = new ArrayList<>();
            PlainBench.partitions(n, n, new ArrayList<>(), order);
            for (int rank = 0; rank < order.size(); rank++) {
                if (order.get(rank).size() <= 8) {
                    b.shape(2, PlainBench.bytes(order.get(rank)));
                    Check.same("rank of " + order.get(rank), b.rank(2), rank);
                }
            }
        }
        TableauBench one = Check.benchWith(Check.of(4, 2, 1), Check.of(1, 1, 1, 1, 1, 1, 1, 1));
        Check.same("rank of 4 2 1", one.rank(0), 5);
        Check.same("rank of 1^8", one.rank(1), 21);
        Check.same("rank without boxes", one.rank(2), 0);
    }

    private static void unranks() {
        TableauBench b = Check.benchWith(Check.of(2, 1));
        for (int n = 0; n <= 24; n++) {
            List<List<Integer>> order = new ArrayList<>();
            PlainBench.partitions(n, n, new ArrayList<>(), order);
            for (int rank = 0; rank < order.size(); rank++) {
                unrankOne(b, n, rank, order.get(rank));
            }
            int boxes = n;
            int shapes = order.size();
            String before = Check.slot(b, 0);
            Class<NoSuchElementException> none = NoSuchElementException.class;
            Check.raises("rank too great", none, () -> b.unrank(0, boxes, shapes));
            Check.raises("rank far too great", none,
                    () -> b.unrank(0, boxes, Integer.MAX_VALUE));
            Check.raises("rank below 0", none, () -> b.unrank(0, boxes, -1));
            Check.raises("rank far below 0", none, () -> b.unrank(0, boxes, Integer.MIN_VALUE));
            Check.text("nothing changed", Check.slot(b, 0), before);
        }
        for (int n : new int[] {-1, 25, Integer.MIN_VALUE, Integer.MAX_VALUE}) {
            Check.raises("n wrong", IllegalArgumentException.class, () -> b.unrank(0, n, 0));
            Check.raises("n and rank wrong", IllegalArgumentException.class,
                    () -> b.unrank(0, n, -1));
        }
    }

    private static void unrankOne(TableauBench b, int n, int rank, List<Integer> due) {
        String before = Check.slot(b, 0);
        if (due.size() > 8) {
            Check.raises("unrank of " + due, UnsupportedOperationException.class,
                    () -> b.unrank(0, n, rank));
            Check.text("nothing changed", Check.slot(b, 0), before);
            return;
        }
        b.unrank(0, n, rank);
        Check.text("unrank " + n + " " + rank, Check.slot(b, 0), PlainBench.spaced(due));
    }
}
