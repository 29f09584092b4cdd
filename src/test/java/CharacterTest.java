import java.util.List;

/** Promise 22: character. Its boundary cases: CountsEdgesTest. */
final class CharacterTest {
    public static void main(String[] args) {
        threeBoxes();
        for (int n = 0; n <= 14; n = n < 8 ? n + 1 : n + 3) {
            likeThePlainOne(n);
        }
        atOnes();
        orthogonal();
        Check.end();
    }

    /** The whole table for three boxes. */
    private static void threeBoxes() {
        int[][] shapes = {{3}, {2, 1}, {1, 1, 1}};
        long[][] due = {{1, 1, 1}, {-1, 0, 2}, {1, -1, 1}};
        for (int i = 0; i < 3; i++) {
            for (int k = 0; k < 3; k++) {
                Bench b = Check.benchWith(shapes[i], shapes[k]);
                Check.same("character " + i + " at " + k, b.character(0, 1), due[i][k]);
            }
        }
    }

    private static long characterOf(List<Integer> rows, List<Integer> type) {
        Bench b = new Bench();
        b.shape(0, PlainBench.bytes(rows));
        b.shape(1, PlainBench.bytes(type));
        return b.character(0, 1);
    }

    /** All pairs of few boxes, and some of many. */
    private static void likeThePlainOne(int n) {
        PlainBench plain = new PlainBench();
        List<List<Integer>> shapes = CountingTest.shapesOf(n);
        for (int i = 0; i < shapes.size(); i++) {
            for (int k = 0; k < shapes.size(); k++) {
                if (n <= 8 || (i * 31 + k) % 7 == 0) {
                    plain.shape(0, PlainBench.bytes(shapes.get(i)));
                    plain.shape(1, PlainBench.bytes(shapes.get(k)));
                    Check.same(shapes.get(i) + " at " + shapes.get(k),
                            characterOf(shapes.get(i), shapes.get(k)), plain.character(0, 1));
                }
            }
        }
    }

    /** At eight rows of one box the character is the number of standard tableaux. */
    private static void atOnes() {
        for (List<Integer> rows : CountingTest.shapesOf(8)) {
            Bench b = Check.benchWith(Check.of(), Check.of(1, 1, 1, 1, 1, 1, 1, 1));
            b.shape(0, PlainBench.bytes(rows));
            Check.same(rows + " at ones", b.character(0, 1), b.standard(0));
        }
    }

    /** The characters at two different shapes of eight boxes, multiplied and summed up, give 0. */
    private static void orthogonal() {
        List<List<Integer>> shapes = CountingTest.shapesOf(8);
        for (int i = 0; i < shapes.size(); i++) {
            for (int k = 0; k < i; k++) {
                long sum = 0;
                for (List<Integer> rows : shapes) {
                    sum += characterOf(rows, shapes.get(i)) * characterOf(rows, shapes.get(k));
                }
                Check.same(shapes.get(i) + " and " + shapes.get(k), sum, 0);
            }
        }
    }
}
