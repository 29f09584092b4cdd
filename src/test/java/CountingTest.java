import java.util.ArrayList;
import java.util.List;
import java.util.Random;

/** Promises 19 to 21: standard, fillings, coefficient. Their boundary cases: CountsEdgesTest. */
final class CountingTest {
    public static void main(String[] args) {
        standardOnes();
        for (int n : new int[] {7, 13, 24}) {
            standardLikeThePlainOne(n);
        }
        standardSquares();
        fillingCounts();
        fillingsLikeThePlainOne();
        everyShapeHasFillings();
        coefficients();
        coefficientsLikeThePlainOne();
        productsHaveAllTableaux();
        Check.end();
    }

    private static void standardOnes() {
        Bench b = Check.benchWith(Check.of(2, 1), Check.of(3, 2, 1), Check.of(12, 12),
                Check.of(4, 4, 4, 4));
        Check.same("2 1", b.standard(0), 2);
        Check.same("3 2 1", b.standard(1), 16);
        Check.same("12 12", b.standard(2), 208012);
        Check.same("4 4 4 4", b.standard(3), 24024);
        b.shape(0, Check.bytes(8, 8, 8));
        Check.same("8 8 8", b.standard(0), 23371634);
        Check.isTrue("conjugate", b.conjugate(0));
        Check.same("3^8", b.standard(0), 23371634);
    }

    private static void standardLikeThePlainOne(int n) {
        PlainBench plain = new PlainBench();
        for (List<Integer> rows : shapesOf(n)) {
            plain.shape(0, PlainBench.bytes(rows));
            Check.same("standard of " + rows, standardOf(rows), plain.standard(0));
        }
    }

    private static long standardOf(List<Integer> rows) {
        Bench b = new Bench();
        b.shape(0, PlainBench.bytes(rows));
        return b.standard(0);
    }

    /** The squares of the counts for all shapes of n boxes sum up to n!. */
    private static void standardSquares() {
        long factorial = 1;
        for (int n = 1; n <= 8; n++) {
            factorial *= n;
            long sum = 0;
            for (List<Integer> rows : shapesOf(n)) {
                sum += standardOf(rows) * standardOf(rows);
            }
            Check.same("squares for " + n, sum, factorial);
        }
    }

    private static void fillingCounts() {
        Bench b = Check.benchWith(Check.of(2, 1), Check.of(3, 2, 1));
        Check.spell(b, 0, 1, 2, 3);
        Check.same("2 1 with 1 2 3", b.fillings(0, 0), 2);
        Check.spell(b, 0, 16, 5, 16);
        Check.same("2 1 with 5 16 16", b.fillings(0, 0), 1);
        Check.spell(b, 1, 3, 1, 2, 2, 1, 4);
        Check.same("3 2 1 with 1 1 2 2 3 4", b.fillings(1, 1), 4);
        Check.text("the word stays", Check.word(b, 1), "3 1 2 2 1 4");
    }

    private static void fillingsLikeThePlainOne() {
        Random random = new Random(20);
        for (int n = 1; n <= 16; n++) {
            for (List<Integer> rows : shapesOf(n)) {
                Bench b = new Bench();
                PlainBench plain = new PlainBench();
                b.shape(0, PlainBench.bytes(rows));
                plain.shape(0, PlainBench.bytes(rows));
                int top = 1 + random.nextInt(16);
                for (int i = 0; i < n; i++) {
                    int v = 1 + random.nextInt(top);
                    b.letter(0, v);
                    plain.letter(0, v);
                }
                Check.same("fillings of " + rows + " with " + Check.word(b, 0),
                        b.fillings(0, 0), plain.fillings(0, 0));
            }
        }
    }

    /** With all letters different, the fillings are the standard ones. */
    private static void everyShapeHasFillings() {
        for (int n = 1; n <= 16; n++) {
            for (List<Integer> rows : shapesOf(n)) {
                Bench b = new Bench();
                for (int v = 1; v <= n; v++) {
                    b.letter(1, v);
                }
                b.shape(3, PlainBench.bytes(rows));
                Check.same("fillings of " + rows, b.fillings(3, 1), b.standard(3));
            }
        }
    }

    private static void coefficients() {
        Bench b = Check.benchWith(Check.of(2, 1), Check.of(2, 1), Check.of(3, 2, 1),
                Check.of(4, 2));
        Check.same("2 1, 2 1, 3 2 1", b.coefficient(0, 1, 2), 2);
        Check.same("2 1, 2 1, 4 2", b.coefficient(0, 0, 3), 1);
        b.shape(0, Check.bytes(4, 3, 2, 1));
        b.shape(1, Check.bytes(5, 3, 2, 1));
        b.shape(2, Check.bytes(6, 5, 4, 3, 2, 1));
        Check.same("10 and 11 boxes", b.coefficient(0, 1, 2), 24);
        Check.same("11 and 10 boxes", b.coefficient(1, 0, 2), 24);
    }

    private static void coefficientsLikeThePlainOne() {
        for (int n = 0; n <= 7; n++) {
            for (List<Integer> whole : shapesOf(n)) {
                for (int k = 0; k <= n; k++) {
                    for (List<Integer> first : shapesOf(k)) {
                        for (List<Integer> second : shapesOf(n - k)) {
                            sameCoefficient(first, second, whole);
                        }
                    }
                }
            }
        }
    }

    private static void sameCoefficient(List<Integer> first, List<Integer> second,
            List<Integer> whole) {
        PlainBench plain = new PlainBench();
        plain.shape(0, PlainBench.bytes(first));
        plain.shape(1, PlainBench.bytes(second));
        plain.shape(2, PlainBench.bytes(whole));
        Check.same(first + ", " + second + ", " + whole,
                benchWith(first, second, whole).coefficient(0, 1, 2),
                plain.coefficient(0, 1, 2));
    }

    private static Bench benchWith(List<Integer> first, List<Integer> second,
            List<Integer> whole) {
        Bench b = new Bench();
        b.shape(0, PlainBench.bytes(first));
        b.shape(1, PlainBench.bytes(second));
        b.shape(2, PlainBench.bytes(whole));
        return b;
    }

    /**
     * A standard tableau of c parts into one of a with the lesser letters and one, by sliding, of
     * some b, each as often as the coefficient says: summed up over a and b, that counts c's.
     */
    private static void productsHaveAllTableaux() {
        List<List<Integer>> wholes = List.of(List.of(8, 6, 4, 3, 1, 1, 1),
                List.of(6, 5, 4, 3, 2, 1), List.of(9, 6, 4, 2, 1, 1, 1),
                List.of(3, 3, 3, 3, 3, 3, 3, 3), List.of(7, 6, 5, 3, 2, 1));
        for (List<Integer> whole : wholes) {
            int boxes = whole.stream().mapToInt(Integer::intValue).sum();
            for (int k : new int[] {3, boxes / 2, boxes - 2}) {
                long sum = 0;
                for (List<Integer> first : shapesOf(k)) {
                    for (List<Integer> second : shapesOf(boxes - k)) {
                        Bench b = benchWith(first, second, whole);
                        sum += b.coefficient(0, 1, 2) * b.standard(0) * b.standard(1);
                    }
                }
                Check.same("all tableaux of " + whole, sum, standardOf(whole));
            }
        }
    }

    static List<List<Integer>> shapesOf(int n) {
        List<List<Integer>> all = new ArrayList<>();
        PlainBench.partitions(n, n, new ArrayList<>(), all);
        all.removeIf(rows -> rows.size() > 8);
        return all;
    }
}
