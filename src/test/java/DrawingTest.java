import java.util.HashMap;
import java.util.Map;

/** Promise 18: draw. Its boundary cases: DrawingEdgesTest. */
final class DrawingTest {
    private static final int[][] SHAPES = {{24}, {3, 3, 3, 3, 3, 3, 3, 3}, {9, 5, 4, 2, 2, 1, 1},
        {12, 12}, {6, 6, 6, 6}, {17, 1, 1, 1, 1, 1, 1, 1}, {4, 3, 2, 1}, {2, 1}};

    public static void main(String[] args) {
        for (long seed = -20; seed < 20; seed++) {
            twoBoxes(seed);
        }
        benchAfterwards();
        for (int[] rows : SHAPES) {
            likeThePlainOne(rows);
        }
        evenly();
        Check.end();
    }

    private static long next(long seed) {
        return seed * 6364136223846793005L + 1442695040888963407L;
    }

    /** Box 0 has another in its hook, so one number more is drawn. */
    private static void twoBoxes(long seed) {
        Bench b = Check.benchWith(Check.of(2), Check.of(1, 1));
        boolean first = (next(seed) >>> 33) % 2 == 0;
        long due = first ? next(next(next(seed))) : next(next(seed));
        Check.same("numbers drawn", b.draw(0, seed), due);
        Check.text("P", Check.tableau(b, false), "1 2");
        Check.same("numbers drawn", b.draw(1, seed), due);
        Check.text("P", Check.tableau(b, false), "1/2");
    }

    private static void benchAfterwards() {
        Bench b = Check.benchWith(Check.of(2, 1));
        Check.spell(b, 0, 1, 2);
        b.insert(0, false);
        b.draw(0, 4);
        Check.same("Q is away", b.entry(true, 0, 0), 0);
        Check.raises("Q is away", IllegalStateException.class, () -> b.recover(0));
        Check.text("the word stays", Check.word(b, 0), "1 2");
        Check.text("the slot stays", Check.slot(b, 0), "2 1");
    }

    private static void likeThePlainOne(int[] rows) {
        PlainBench plain = new PlainBench();
        plain.shape(0, Check.bytes(rows));
        long seed = 5;
        for (int i = 0; i < 50; i++) {
            Bench b = Check.benchWith(rows);
            long got = b.draw(0, seed);
            Check.same("seed", got, plain.draw(0, seed));
            Check.text("P", Check.tableau(b, false), Check.tableau(plain, false));
            seed = got;
        }
    }

    private static void evenly() {
        Map<String, Integer> times = new HashMap<>();
        long seed = 1;
        Bench b = new Bench();
        for (int i = 0; i < 16000; i++) {
            if (i % 20 == 0) {
                b = Check.benchWith(Check.of(3, 2, 1));
            }
            seed = b.draw(0, seed);
            times.merge(Check.tableau(b, false), 1, Integer::sum);
        }
        Check.same("all that there are", times.size(), b.standard(0));
        for (Map.Entry<String, Integer> e : times.entrySet()) {
            Check.isTrue(e.getKey() + " about 1000 times", Math.abs(e.getValue() - 1000) < 150);
        }
    }
}
