import java.util.Random;

/** Promises 11 to 15: insert, entry, recover, read, equivalent. */
final class InsertionTest {
    public static void main(String[] args) {
        byRows();
        byColumns();
        widest();
        entries();
        recovers();
        reads();
        equivalences();
        Random random = new Random(11);
        for (int i = 0; i < 300; i++) {
            bothWays(random);
        }
        Check.end();
    }

    private static void byRows() {
        TableauBench b = new TableauBench();
        Check.spell(b, 0, 3, 1, 2);
        Check.same("rows of P", b.insert(0, false), 2);
        Check.text("P", Check.tableau(b, false), "1 2/3");
        Check.text("Q", Check.tableau(b, true), "1 3/2");
        Check.spell(b, 0, 2, 1, 2, 1, 2);
        Check.same("rows of P", b.insert(0, false), 2);
        Check.text("P", Check.tableau(b, false), "1 1 2/2 2");
        Check.text("Q", Check.tableau(b, true), "1 3 5/2 4");
        Check.text("the word stays", Check.word(b, 0), "2 1 2 1 2");
        Check.same("an empty word", b.insert(1, false), 0);
        Check.text("P", Check.tableau(b, false), "");
        b.recover(0);
        Check.same("Q is there, without boxes", b.length(0), 0);
    }

    private static void byColumns() {
        TableauBench b = new TableauBench();
        Check.spell(b, 1, 3, 1, 2);
        Check.same("rows of P", b.insert(1, true), 2);
        Check.text("P", Check.tableau(b, false), "1 3/2");
        Check.text("Q", Check.tableau(b, true), "1 2/3");
        Check.spell(b, 1, 2, 1, 2, 1, 2);
        Check.same("rows of P", b.insert(1, true), 2);
        Check.text("P", Check.tableau(b, false), "1 1 2/2 2");
        Check.text("Q", Check.tableau(b, true), "1 2 4/3 5");
        Check.same("an empty word", b.insert(0, true), 0);
        b.recover(1);
        Check.same("Q is there, without boxes", b.length(1), 0);
    }

    private static void widest() {
        TableauBench b = new TableauBench();
        for (int v = 16; v >= 1; v--) {
            b.letter(0, v);
            b.letter(1, 17 - v);
        }
        Check.same("falling by rows", b.insert(0, false), 16);
        Check.same("its lowest letter", b.entry(false, 15, 0), 16);
        Check.same("falling by columns", b.insert(0, true), 1);
        Check.same("its last letter", b.entry(false, 0, 15), 16);
        Check.same("rising by rows", b.insert(1, false), 1);
        Check.same("rising by columns", b.insert(1, true), 16);
        b.recover(0);
        Check.text("recovered", Check.word(b, 0), "16 15 14 13 12 11 10 9 8 7 6 5 4 3 2 1");
    }

    private static void entries() {
        TableauBench b = new TableauBench();
        Check.spell(b, 0, 3, 1, 2);
        b.insert(0, false);
        int[] edges = {-1, 2, 16, 17, 24, 25, Integer.MIN_VALUE, Integer.MAX_VALUE};
        for (int i : edges) {
            for (int k = 0; k < 2; k++) {
                Check.same("no row", b.entry(k == 1, i, 0), 0);
                Check.same("no column", b.entry(k == 1, 0, i), 0);
                Check.same("neither", b.entry(k == 1, i, i), 0);
            }
        }
        Check.same("no box", b.entry(false, 1, 1), 0);
        Check.same("P", b.entry(false, 1, 0), 3);
        Check.same("Q", b.entry(true, 0, 1), 3);
        Check.same("before the row", b.entry(false, 1, -1), 0);
        Check.same("behind the row", b.entry(false, 0, 24), 0);
    }

    private static void recovers() {
        TableauBench b = new TableauBench();
        Check.spell(b, 0, 5, 5, 2, 16, 3, 3, 1);
        Check.spell(b, 1, 1, 1, 1, 1, 1, 1, 1, 1, 1);
        b.insert(0, false);
        String p = Check.tableau(b, false);
        String q = Check.tableau(b, true);
        b.recover(1);
        Check.text("the word that was inserted", Check.word(b, 1), "5 5 2 16 3 3 1");
        Check.text("P stays", Check.tableau(b, false), p);
        Check.text("Q stays", Check.tableau(b, true), q);
        b.cut(0, 2);
        b.recover(0);
        Check.text("once more", Check.word(b, 0), "5 5 2 16 3 3 1");
        b.shape(0, 2);
        b.draw(0, 3);
        String before = Check.all(b);
        Check.raises("Q away", IllegalStateException.class, () -> b.recover(0));
        Check.text("nothing changed", Check.all(b), before);
    }

    private static void reads() {
        TableauBench b = Check.benchWith(Check.of(17), Check.of(2, 2, 2, 2, 2, 2, 2, 2));
        Check.spell(b, 0, 2, 1, 2, 1, 2);
        b.insert(0, false);
        Check.spell(b, 1, 9, 9, 9, 9, 9, 9, 9, 9);
        b.read(1);
        Check.text("the lowest row first", Check.word(b, 1), "2 2 1 1 2");
        b.recover(0);
        Check.text("Q is there", Check.word(b, 0), "2 1 2 1 2");
        b.draw(0, 1);
        String before = Check.all(b);
        Check.raises("17 boxes", IllegalStateException.class, () -> b.read(1));
        Check.text("nothing changed", Check.all(b), before);
        b.draw(1, 1);
        b.read(1);
        Check.same("16 boxes", b.length(1), 16);
        b.shape(0, 0);
        b.draw(0, 1);
        b.read(1);
        Check.same("no boxes", b.length(1), 0);
    }

    private static void equivalences() {
        TableauBench b = new TableauBench();
        Check.isTrue("two empty words", b.equivalent());
        Check.spell(b, 0, 2, 1, 3);
        Check.isFalse("one empty word", b.equivalent());
        Check.spell(b, 1, 2, 3, 1);
        Check.isTrue("2 1 3 and 2 3 1", b.equivalent());
        Check.spell(b, 1, 1, 3, 2);
        Check.isFalse("2 1 3 and 1 3 2", b.equivalent());
        Check.spell(b, 0, 1, 1, 2);
        Check.spell(b, 1, 1, 2, 1);
        Check.isFalse("1 1 2 and 1 2 1", b.equivalent());
        Check.spell(b, 0, 2, 1, 1);
        Check.isTrue("2 1 1 and 1 2 1", b.equivalent());
        Check.spell(b, 0, 2, 1, 2);
        Check.spell(b, 1, 2, 2, 1);
        Check.isTrue("2 1 2 and 2 2 1", b.equivalent());
        b.insert(0, true);
        String before = Check.all(b);
        b.equivalent();
        Check.text("nothing changed", Check.all(b), before);
        b.recover(1);
        Check.same("Q is there still", b.length(1), 3);
    }

    /** By columns is by rows of the word turned around; readings give P again. */
    private static void bothWays(Random random) {
        TableauBench b = new TableauBench();
        int size = random.nextInt(17);
        int top = 1 + random.nextInt(16);
        int[] letters = new int[size];
        int[] around = new int[size];
        for (int i = 0; i < size; i++) {
            letters[i] = 1 + random.nextInt(top);
            around[size - 1 - i] = letters[i];
        }
        Check.spell(b, 0, letters);
        Check.spell(b, 1, around);
        b.insert(0, true);
        String p = Check.tableau(b, false);
        String q = Check.tableau(b, true);
        b.insert(1, false);
        Check.text("turned around", Check.tableau(b, false), p);
        b.insert(0, true);
        b.recover(1);
        b.insert(1, false);
        Check.text("P of the recovered word", Check.tableau(b, false), p);
        Check.text("Q of the recovered word", Check.tableau(b, true), q);
        b.read(0);
        Check.isTrue("a reading", b.equivalent());
    }
}
