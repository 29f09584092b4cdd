import java.util.List;

/** Promise 22: character. */
final class CharacterTest {
    public static void main(String[] args) {
        smallOnes();
        refused();
        likeThePlainOne();
        atOnes();
        orthogonal();
        Check.end();
    }

    /** The whole table for three boxes, and the edges. */
    private static void smallOnes() {
        int[][] shapes = {{3}, {2, 1}, {1, 1, 1}};
        long[][] due = {{1, 1, 1}, {-1, 0, 2}, {1, -1, 1}};
        for (int i = 0; i < 3; i++) {
            for (int k = 0; k < 3; k++) {
                TableauBench b = Check.benchWith(shapes[i], shapes[k]);
                Check.same("character " + i + " at " + k, b.character(0, 1), due[i][k]);
            }
        }
        TableauBench b = Check.benchWith(Check.of(14), Check.of(7, 1, 1, 1, 1, 1, 1, 1));
        Check.same("without boxes", b.character(2, 3), 1);
        Check.same("14 boxes", b.character(0, 1), 1);
        Check.same("a hook at 14", b.character(1, 0), -1);
        b.shape(2, Check.bytes(6, 2, 1, 1, 1, 1, 1, 1));
        Check.same("no hook at 14", b.character(2, 0), 0);
    }

    private static void refused() {
        TableauBench b = Check.benchWith(Check.of(15), Check.of(14, 1), Check.of(16), Check.of(3));
        String before = Check.all(b);
        Check.raises("15 boxes", UnsupportedOperationException.class, () -> b.character(0, 1));
        Check.raises("15 and 16", IllegalStateException.class, () -> b.character(0, 2));
        Check.raises("3 and 16", IllegalStateException.class, () -> b.character(3, 2));
        Check.raises("15 and 3", IllegalStateException.class, () -> b.character(1, 3));
        Check.raises("wrong slot", IndexOutOfBoundsException.class, () -> b.character(1, 4));
        Check.text("nothing changed", Check.all(b), before);
    }

    private static void likeThePlainOne() {
        TableauBench b = new TableauBench();
        PlainBench plain = new PlainBench();
        for (int n = 0; n <= 14; n = n < 8 ? n + 1 : n + 3) {
            List<List<Integer>> shapes = CountingTest.shapesOf(n);
            for (int i = 0; i < shapes.size(); i++) {
                for (int k = 0; k < shapes.size(); k++) {
                    // All pairs of few boxes, and some of many.
                    if (n <= 8 || (i * 31 + k) % 7 == 0) {
                        b.shape(0, PlainBench.bytes(shapes.get(i)));
                        b.shape(1, PlainBench.bytes(shapes.get(k)));
                        plain.shape(0, PlainBench.bytes(shapes.get(i)));
                        plain.shape(1, PlainBench.bytes(shapes.get(k)));
                        Check.same(shapes.get(i) + " at " + shapes.get(k),
                                b.character(0, 1), plain.character(0, 1));
                    }
                }
            }
        }
    }

    /** At eight rows of one box the character is the number of standard tableaux. */
    private static void atOnes() {
        for (List<Integer> rows : CountingTest.shapesOf(8)) {
            TableauBench b = Check.benchWith(Check.of(), Check.of(1, 1, 1, 1, 1, 1, 1, 1));
            b.shape(0, PlainBench.bytes(rows));
            Check.same(rows + " at ones", b.character(0, 1), b.standard(0));
        }
    }

    /** The characters at two different shapes of eight boxes, multiplied and summed up, give 0. */
    private static void orthogonal() {
        List<List<Integer>> shapes = CountingTest.shapesOf(8);
        TableauBench b = new TableauBench();
        for (int i = 0; i < shapes.size(); i++) {
            for (int k = 0; k < i; k++) {
                b.shape(1, PlainBench.bytes(shapes.get(i)));
                b.shape(2, PlainBench.bytes(shapes.get(k)));
                long sum = 0;
                for (List<Integer> rows : shapes) {
                    b.shape(0, PlainBench.bytes(rows));
                    sum += b.character(0, 1) * b.character(0, 2);
                }
                Check.same(shapes.get(i) + " and " + shapes.get(k), sum, 0);
            }
        }
    }
}
