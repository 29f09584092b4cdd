import java.util.Random;

/** Promises 11 to 15: insert, entry, recover, read, equivalent. Edges: InsertionEdgesTest. */
final class InsertionTest {
    public static void main(String[] args) {
        byRows();
        byColumns();
        recovers();
        reads();
        equivalences();
        Random random = new Random(11);
        for (int i = 0; i < 300; i++) {
            bothWays(random);
        }
        Check.end();
    }

    private static void byRows() {
        Bench b = new Bench();
        Check.spell(b, 0, 3, 1, 2);
        Check.same("rows of P", b.insert(0, false), 2);
        Check.text("P", Check.tableau(b, false), "1 2/3");
        Check.text("Q", Check.tableau(b, true), "1 3/2");
        Check.spell(b, 0, 2, 1, 2, 1, 2);
        Check.same("rows of P", b.insert(0, false), 2);
        Check.text("P", Check.tableau(b, false), "1 1 2/2 2");
        Check.text("Q", Check.tableau(b, true), "1 3 5/2 4");
        Check.text("the word stays", Check.word(b, 0), "2 1 2 1 2");
    }

    private static void byColumns() {
        Bench b = new Bench();
        Check.spell(b, 1, 3, 1, 2);
        Check.same("rows of P", b.insert(1, true), 2);
        Check.text("P", Check.tableau(b, false), "1 3/2");
        Check.text("Q", Check.tableau(b, true), "1 2/3");
        Check.spell(b, 1, 2, 1, 2, 1, 2);
        Check.same("rows of P", b.insert(1, true), 2);
        Check.text("P", Check.tableau(b, false), "1 1 2/2 2");
        Check.text("Q", Check.tableau(b, true), "1 2 4/3 5");
    }

    private static void recovers() {
        Bench b = new Bench();
        Check.spell(b, 0, 5, 5, 2, 16, 3, 3, 1);
        Check.spell(b, 1, 1, 1, 1, 1, 1, 1, 1, 1, 1);
        b.insert(0, false);
        String p = Check.tableau(b, false);
        String q = Check.tableau(b, true);
        b.recover(1);
        Check.text("the word that was inserted", Check.word(b, 1), "5 5 2 16 3 3 1");
        Check.text("P stays", Check.tableau(b, false), p);
        Check.text("Q stays", Check.tableau(b, true), q);
        b.cut(0, 2);
        b.recover(0);
        Check.text("once more", Check.word(b, 0), "5 5 2 16 3 3 1");
    }

    private static void reads() {
        Bench b = new Bench();
        Check.spell(b, 0, 2, 1, 2, 1, 2);
        b.insert(0, false);
        Check.spell(b, 1, 9, 9, 9, 9, 9, 9, 9, 9);
        b.read(1);
        Check.text("the lowest row first", Check.word(b, 1), "2 2 1 1 2");
        Check.text("P stays", Check.tableau(b, false), "1 1 2/2 2");
        b.recover(0);
        Check.text("Q stays", Check.word(b, 0), "2 1 2 1 2");
    }

    private static void equivalences() {
        Bench b = new Bench();
        Check.spell(b, 0, 2, 1, 3);
        Check.spell(b, 1, 2, 3, 1);
        Check.isTrue("2 1 3 and 2 3 1", b.equivalent());
        Check.spell(b, 1, 1, 3, 2);
        Check.isFalse("2 1 3 and 1 3 2", b.equivalent());
        Check.spell(b, 0, 1, 1, 2);
        Check.spell(b, 1, 1, 2, 1);
        Check.isFalse("1 1 2 and 1 2 1", b.equivalent());
        Check.spell(b, 0, 2, 1, 1);
        Check.isTrue("2 1 1 and 1 2 1", b.equivalent());
        Check.spell(b, 0, 2, 1, 2);
        Check.spell(b, 1, 2, 2, 1);
        Check.isTrue("2 1 2 and 2 2 1", b.equivalent());
    }

    /** By columns is by rows of the word turned around; readings give P again. */
    private static void bothWays(Random random) {
        Bench b = new Bench();
        int size = random.nextInt(17);
        int top = 1 + random.nextInt(16);
        int[] letters = new int[size];
        int[] around = new int[size];
        for (int i = 0; i < size; i++) {
            letters[i] = 1 + random.nextInt(top);
            around[size - 1 - i] = letters[i];
        }
        Check.spell(b, 0, letters);
        Check.spell(b, 1, around);
        b.insert(0, true);
        String p = Check.tableau(b, false);
        String q = Check.tableau(b, true);
        b.insert(1, false);
        Check.text("turned around", Check.tableau(b, false), p);
        b.insert(0, true);
        b.recover(1);
        b.insert(1, false);
        Check.text("P of the recovered word", Check.tableau(b, false), p);
        Check.text("Q of the recovered word", Check.tableau(b, true), q);
        b.read(0);
        Check.isTrue("a reading", b.equivalent());
    }
}
