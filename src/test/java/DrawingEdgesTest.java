/** The boundary cases that promise 18 and its term name, sentence by sentence. */
final class DrawingEdgesTest {
    public static void main(String[] args) {
        withoutBoxes();
        oneBox();
        wrapping();
        numbersAreNotNegative();
        boxesRowByRow();
        hookToTheRight();
        hookBelow();
        rightBeforeBelow();
        onlyShapeLeft();
        mostBoxes();
        benchAfterwards();
        Check.end();
    }

    private static long next(long seed) {
        return seed * 6364136223846793005L + 1442695040888963407L;
    }

    private static void withoutBoxes() {
        Check.sentence("18: The seed as it is then; no number is drawn without boxes");
        for (long seed : new long[] {0, 1, -77, Long.MIN_VALUE, Long.MAX_VALUE}) {
            Bench b = Check.busy();
            b.shape(2, 0);
            Check.same("the seed", b.draw(2, seed), seed);
            Check.text("P", Check.tableau(b, false), "");
            Check.text("Q", Check.tableau(b, true), "");
            Check.raises("recover, Q away", IllegalStateException.class, () -> b.recover(0));
        }
    }

    private static void oneBox() {
        Check.sentence("18: The seed as it is then; one number for one box");
        Bench b = Check.benchWith(Check.of(1));
        Check.same("seed 0", b.draw(0, 0), 1442695040888963407L);
        Check.same("seed 1", b.draw(0, 1), 7806831264735756412L);
        Check.text("P", Check.tableau(b, false), "1");
    }

    private static void wrapping() {
        Check.sentence("Terms: the seed becomes seed * .. + .. (wrapping)");
        Bench b = Check.benchWith(Check.of(1));
        Check.same("seed -1", b.draw(0, -1), -4921441182957829598L);
        Check.same("the greatest seed", b.draw(0, Long.MAX_VALUE), 4301930853896946210L);
        Check.same("the least seed", b.draw(0, Long.MIN_VALUE), -7780676995965812401L);
        Check.same("seed 2", b.draw(0, 2), -4275776585127002199L);
    }

    /** With the sign kept, the number were below 0, and so were what is left modulo 3. */
    private static void numbersAreNotNegative() {
        Check.sentence("Terms: the number is seed >>> 33");
        int below = 0;
        for (long seed = 0; seed < 40; seed++) {
            below += next(seed) < 0 ? 1 : 0;
            Bench b = Check.benchWith(Check.of(1, 1, 1));
            PlainBench plain = new PlainBench();
            plain.shape(0, Check.bytes(1, 1, 1));
            Check.same("the seed", b.draw(0, seed), plain.draw(0, seed));
            Check.text("P", Check.tableau(b, false), "1/2/3");
        }
        Check.isTrue("some seeds became negative", below > 5);
    }

    /** In 2 1 the box taken first says the rest: (0, 0) goes on, the others are last at once. */
    private static void boxesRowByRow() {
        Check.sentence("Terms: the first one, modulo k, says which box, row by row from (0, 0) on");
        int[] taken = new int[3];
        long seed = 100;
        for (int i = 0; i < 30; i++) {
            seed = next(seed);
            int first = (int) ((next(seed) >>> 33) % 3);
            taken[first]++;
            Bench b = Check.benchWith(Check.of(2, 1));
            long left = first == 0 ? next(next(seed)) : next(seed);
            boolean right = first == 1 || first == 0 && (left >>> 33) % 2 == 0;
            Check.same("the seed", b.draw(0, seed), lineOfTwo(left));
            Check.text("P", Check.tableau(b, false), right ? "1 3/2" : "1 2/3");
        }
        Check.isTrue("each box was taken", taken[0] * taken[1] * taken[2] > 0);
    }

    /** The seed when two boxes in a line, and then the last one, are gone. */
    private static long lineOfTwo(long seed) {
        long taken = next(seed);
        return next((taken >>> 33) % 2 == 0 ? next(taken) : taken);
    }

    private static void hookToTheRight() {
        Check.sentence("Terms: first those to the right, from the nearest on");
        for (long seed = 0; seed < 60; seed++) {
            Bench b = Check.benchWith(Check.of(5));
            Check.same("the seed", b.draw(0, seed), line(seed, 5));
            Check.text("P", Check.tableau(b, false), "1 2 3 4 5");
        }
    }

    private static void hookBelow() {
        Check.sentence("Terms: then those below, likewise");
        for (long seed = 0; seed < 60; seed++) {
            Bench b = Check.benchWith(Check.of(1, 1, 1, 1, 1));
            Check.same("the seed", b.draw(0, seed), line(seed, 5));
            Check.text("P", Check.tableau(b, false), "1/2/3/4/5");
        }
    }

    /** The seed when all boxes in a line are gone: from box i the next number leads to i + 1 .. */
    private static long line(long seed, int boxes) {
        long s = seed;
        for (int k = boxes; k >= 1; k--) {
            s = next(s);
            int box = (int) ((s >>> 33) % k);
            while (box < k - 1) {
                s = next(s);
                box += 1 + (int) ((s >>> 33) % (k - 1 - box));
            }
        }
        return s;
    }

    /** In a hook of 3 and 3 the corner's hook has two boxes to the right, then two below. */
    private static void rightBeforeBelow() {
        Check.sentence("Terms: first those to the right, .. then those below");
        int[] led = new int[4];
        for (long seed = 0; seed < 200; seed++) {
            long second = next(next(seed));
            if ((next(seed) >>> 33) % 5 == 0) {
                int way = (int) ((second >>> 33) % 4);
                led[way]++;
                Bench b = Check.benchWith(Check.of(3, 1, 1));
                b.draw(0, seed);
                Check.same("the row of 5 by way " + way, rowOfFive(b), way < 2 ? 0 : 2);
            }
        }
        Check.isTrue("each way was led", led[0] * led[1] * led[2] * led[3] > 0);
    }

    private static int rowOfFive(Bench b) {
        return b.entry(false, 0, 2) == 5 ? 0 : b.entry(false, 2, 0) == 5 ? 2 : -1;
    }

    private static void onlyShapeLeft() {
        Check.sentence("Terms: the last box gets k, and is no box any more");
        for (long seed = -30; seed < 30; seed++) {
            Bench b = Check.benchWith(Check.of(2, 2));
            PlainBench plain = new PlainBench();
            plain.shape(0, Check.bytes(2, 2));
            Check.same("the seed", b.draw(0, seed), plain.draw(0, seed));
            Check.same("4 in the only corner", b.entry(false, 1, 1), 4);
            Check.same("1 in the first box", b.entry(false, 0, 0), 1);
        }
    }

    private static void mostBoxes() {
        Check.sentence("18: DRAWS a standard tableau of the slot's shape; 24 boxes");
        int[][] shapes = {{24}, {3, 3, 3, 3, 3, 3, 3, 3}, {17, 1, 1, 1, 1, 1, 1, 1}, {12, 12}};
        for (int[] rows : shapes) {
            for (long seed : new long[] {0, 5, -5, Long.MAX_VALUE, Long.MIN_VALUE}) {
                Bench b = Check.benchWith(rows);
                PlainBench plain = new PlainBench();
                plain.shape(0, Check.bytes(rows));
                Check.same("the seed", b.draw(0, seed), plain.draw(0, seed));
                Check.text("P", Check.tableau(b, false), Check.tableau(plain, false));
                Check.same("behind row 0", b.entry(false, 0, rows[0]), 0);
                Check.same("below", b.entry(false, rows.length, 0), 0);
            }
        }
    }

    private static void benchAfterwards() {
        Check.sentence("18: P is that, Q is away");
        Bench b = Check.busy();
        b.draw(0, 8);
        b.draw(1, 8);
        Check.same("P of the smaller one", b.entry(false, 0, 3), 0);
        Check.same("P of the smaller one", b.entry(false, 2, 0), 0);
        Check.same("P of the smaller one", b.entry(false, 1, 2), 6);
        Check.text("Q", Check.tableau(b, true), "");
        Check.raises("recover", IllegalStateException.class, () -> b.recover(1));
        Check.text("the words", Check.word(b, 0) + ", " + Check.word(b, 1), "3 1 2, 2 2 1 5 3");
        Check.text("the slots", Check.slot(b, 0) + ", " + Check.slot(b, 1), "4 2 1, 3 3");
        String p = Check.tableau(b, false);
        b.shape(1, 1);
        Check.text("P stays when the slot changes", Check.tableau(b, false), p);
    }
}
