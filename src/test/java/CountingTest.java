import java.util.ArrayList;
import java.util.List;

/** Promises 19 to 21: standard, fillings, coefficient. */
final class CountingTest {
    public static void main(String[] args) {
        standardOnes();
        standardSquares();
        fillingCounts();
        fillingsLikeThePlainOne();
        everyShapeHasFillings();
        coefficients();
        noCoefficients();
        coefficientsLikeThePlainOne();
        productsHaveAllTableaux();
        Check.end();
    }

    private static void standardOnes() {
        TableauBench b = Check.benchWith(Check.of(2, 1), Check.of(3, 2, 1), Check.of(24));
        Check.same("2 1", b.standard(0), 2);
        Check.same("3 2 1", b.standard(1), 16);
        Check.same("24", b.standard(2), 1);
        Check.same("without boxes", b.standard(3), 1);
        b.shape(0, Check.bytes(12, 12));
        Check.same("12 12", b.standard(0), 208012);
        b.shape(0, Check.bytes(4, 4, 4, 4));
        Check.same("4 4 4 4", b.standard(0), 24024);
        b.shape(0, Check.bytes(8, 8, 8));
        Check.same("8 8 8", b.standard(0), 23371634);
        Check.isTrue("conjugate", b.conjugate(0));
        Check.same("3^8", b.standard(0), 23371634);
        PlainBench plain = new PlainBench();
        for (int n : new int[] {7, 13, 24}) {
            for (List<Integer> rows : shapesOf(n)) {
                b.shape(0, PlainBench.bytes(rows));
                plain.shape(0, PlainBench.bytes(rows));
                Check.same("standard of " + rows, b.standard(0), plain.standard(0));
            }
        }
    }

    /** The squares of the counts for all shapes of n boxes sum up to n!. */
    private static void standardSquares() {
        TableauBench b = new TableauBench();
        long factorial = 1;
        for (int n = 1; n <= 8; n++) {
            factorial *= n;
            long sum = 0;
            for (List<Integer> rows : shapesOf(n)) {
                b.shape(0, PlainBench.bytes(rows));
                sum += b.standard(0) * b.standard(0);
            }
            Check.same("squares for " + n, sum, factorial);
        }
    }

    private static void fillingCounts() {
        TableauBench b = Check.benchWith(Check.of(2, 1), Check.of(3, 2, 1), Check.of(1, 1),
                Check.of());
        Check.same("both without any", b.fillings(3, 0), 1);
        Check.same("no letters", b.fillings(0, 0), 0);
        Check.spell(b, 0, 1, 2, 3);
        Check.same("2 1 with 1 2 3", b.fillings(0, 0), 2);
        Check.same("letters, no boxes", b.fillings(3, 0), 0);
        Check.same("too few letters", b.fillings(1, 0), 0);
        Check.same("too many letters", b.fillings(2, 0), 0);
        Check.spell(b, 0, 16, 5, 16);
        Check.same("2 1 with 5 16 16", b.fillings(0, 0), 1);
        Check.spell(b, 0, 5, 5, 5);
        Check.same("2 1 with 5 5 5", b.fillings(0, 0), 0);
        Check.spell(b, 1, 7, 7);
        Check.same("1 1 with 7 7", b.fillings(2, 1), 0);
        Check.spell(b, 1, 3, 1, 2, 2, 1, 4);
        Check.same("3 2 1 with 1 1 2 2 3 4", b.fillings(1, 1), 4);
        Check.text("the word stays", Check.word(b, 1), "3 1 2 2 1 4");
        b.shape(3, Check.bytes(17));
        Check.same("17 boxes, 6 letters", b.fillings(3, 1), 0);
    }

    private static void fillingsLikeThePlainOne() {
        java.util.Random random = new java.util.Random(20);
        for (int n = 1; n <= 16; n++) {
            for (List<Integer> rows : shapesOf(n)) {
                TableauBench b = new TableauBench();
                PlainBench plain = new PlainBench();
                b.shape(0, PlainBench.bytes(rows));
                plain.shape(0, PlainBench.bytes(rows));
                int top = 1 + random.nextInt(16);
                for (int i = 0; i < n; i++) {
                    int v = 1 + random.nextInt(top);
                    b.letter(0, v);
                    plain.letter(0, v);
                }
                Check.same("fillings of " + rows + " with " + Check.word(b, 0),
                        b.fillings(0, 0), plain.fillings(0, 0));
            }
        }
    }

    /** With all letters different, the fillings are the standard ones. */
    private static void everyShapeHasFillings() {
        TableauBench b = new TableauBench();
        for (int n = 1; n <= 16; n++) {
            b.letter(1, n);
            for (List<Integer> rows : shapesOf(n)) {
                b.shape(3, PlainBench.bytes(rows));
                Check.same("fillings of " + rows, b.fillings(3, 1), b.standard(3));
            }
        }
    }

    private static void coefficients() {
        TableauBench b = Check.benchWith(Check.of(2, 1), Check.of(2, 1), Check.of(3, 2, 1),
                Check.of(4, 2));
        Check.same("2 1, 2 1, 3 2 1", b.coefficient(0, 1, 2), 2);
        Check.same("2 1, 2 1, 4 2", b.coefficient(0, 0, 3), 1);
        b.shape(0, Check.bytes(4, 3, 2, 1));
        b.shape(1, Check.bytes(5, 3, 2, 1));
        b.shape(2, Check.bytes(6, 5, 4, 3, 2, 1));
        Check.same("10 and 11 boxes", b.coefficient(0, 1, 2), 24);
        Check.same("11 and 10 boxes", b.coefficient(1, 0, 2), 24);
        b.shape(3, 0);
        Check.same("a without boxes", b.coefficient(3, 2, 2), 1);
        Check.same("b without boxes", b.coefficient(2, 3, 2), 1);
        Check.same("none with boxes", b.coefficient(3, 3, 3), 1);
    }

    private static void noCoefficients() {
        TableauBench b = Check.benchWith(Check.of(3), Check.of(1), Check.of(2, 2), Check.of(2));
        Check.same("c has not all boxes of a", b.coefficient(0, 1, 2), 0);
        Check.same("c has not all boxes of b", b.coefficient(1, 0, 2), 0);
        Check.same("c has more boxes", b.coefficient(3, 1, 2), 0);
        Check.same("c has fewer boxes", b.coefficient(3, 3, 0), 0);
        Check.same("2, 2, 2 2", b.coefficient(3, 3, 2), 1);
        b.shape(0, Check.bytes(24));
        Check.same("48 boxes", b.coefficient(0, 0, 0), 0);
    }

    private static void coefficientsLikeThePlainOne() {
        TableauBench b = new TableauBench();
        PlainBench plain = new PlainBench();
        for (int n = 0; n <= 7; n++) {
            for (List<Integer> whole : shapesOf(n)) {
                for (int k = 0; k <= n; k++) {
                    for (List<Integer> first : shapesOf(k)) {
                        for (List<Integer> second : shapesOf(n - k)) {
                            sameCoefficient(b, plain, first, second, whole);
                        }
                    }
                }
            }
        }
    }

    private static void sameCoefficient(TableauBench b, PlainBench plain, List<Integer> first,
            List<Integer> second, List<Integer> whole) {
        List<List<Integer>> shapes = List.of(first, second, whole);
        for (int i = 0; i < 3; i++) {
            b.shape(i, PlainBench.bytes(shapes.get(i)));
            plain.shape(i, PlainBench.bytes(shapes.get(i)));
        }
        Check.same(shapes.toString(), b.coefficient(0, 1, 2), plain.coefficient(0, 1, 2));
    }

    /**
     * A standard tableau of c parts into one of a with the lesser letters and one, by sliding, of
     * some b, each as often as the coefficient says: summed up over a and b, that counts c's.
     */
    private static void productsHaveAllTableaux() {
        int[][] wholes = {{8, 6, 4, 3, 1, 1, 1}, {6, 5, 4, 3, 2, 1}, {9, 6, 4, 2, 1, 1, 1},
            {3, 3, 3, 3, 3, 3, 3, 3}, {7, 6, 5, 3, 2, 1}};
        for (int[] rows : wholes) {
            TableauBench b = Check.benchWith(rows);
            int boxes = 0;
            for (int length : rows) {
                boxes += length;
            }
            for (int k : new int[] {3, boxes / 2, boxes - 2}) {
                long sum = 0;
                for (List<Integer> first : shapesOf(k)) {
                    b.shape(1, PlainBench.bytes(first));
                    for (List<Integer> second : shapesOf(boxes - k)) {
                        b.shape(2, PlainBench.bytes(second));
                        sum += b.coefficient(1, 2, 0) * b.standard(1) * b.standard(2);
                    }
                }
                Check.same("all tableaux of " + Check.slot(b, 0), sum, b.standard(0));
            }
        }
    }

    static List<List<Integer>> shapesOf(int n) {
        List<List<Integer>> all = new ArrayList<>();
        PlainBench.partitions(n, n, new ArrayList<>(), all);
        all.removeIf(rows -> rows.size() > 8);
        return all;
    }
}
