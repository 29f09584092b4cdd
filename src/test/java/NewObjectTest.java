/** Promise 1, and the slots and words that all calls refuse. */
final class NewObjectTest {
    public static void main(String[] args) {
        newObject();
        wrongSlots();
        wrongWords();
        objectsAreApart();
        Check.end();
    }

    private static void newObject() {
        TableauBench b = new TableauBench();
        for (int slot = 0; slot < 4; slot++) {
            for (int i = -1; i < 9; i++) {
                Check.same("row", b.row(slot, i), 0);
            }
            Check.same("standard", b.standard(slot), 1);
        }
        Check.same("length", b.length(0), 0);
        Check.same("length", b.length(1), 0);
        Check.same("entry of P", b.entry(false, 0, 0), 0);
        Check.same("entry of Q", b.entry(true, 0, 0), 0);
        Check.raises("recover, Q away", IllegalStateException.class, () -> b.recover(0));
        b.read(0);
        Check.same("length of the reading", b.length(0), 0);
    }

    private static void wrongSlots() {
        for (int bad : new int[] {-1, 4, Integer.MIN_VALUE, Integer.MAX_VALUE}) {
            TableauBench b = Check.benchWith(Check.of(3, 1), Check.of(2, 1), Check.of(1));
            Class<IndexOutOfBoundsException> due = IndexOutOfBoundsException.class;
            Check.raises("shape", due, () -> b.shape(bad, 1));
            Check.raises("shape that is none", due, () -> b.shape(bad, -1));
            Check.raises("row", due, () -> b.row(bad, 9));
            Check.raises("conjugate", due, () -> b.conjugate(bad));
            Check.raises("rank", due, () -> b.rank(bad));
            Check.raises("unrank", due, () -> b.unrank(bad, 3, 0));
            Check.raises("unrank, n wrong", due, () -> b.unrank(bad, 25, -1));
            Check.raises("rectify, inner", due, () -> b.rectify(bad, 0, 0, 9));
            Check.raises("rectify, outer", due, () -> b.rectify(0, bad, 0, 9));
            Check.raises("draw", due, () -> b.draw(bad, 1));
            Check.raises("standard", due, () -> b.standard(bad));
            Check.raises("fillings", due, () -> b.fillings(bad, 0));
            Check.raises("coefficient, a", due, () -> b.coefficient(bad, 0, 0));
            Check.raises("coefficient, b", due, () -> b.coefficient(0, bad, 0));
            Check.raises("coefficient, c", due, () -> b.coefficient(0, 0, bad));
            Check.raises("character, slot", due, () -> b.character(bad, 0));
            Check.raises("character, type", due, () -> b.character(0, bad));
        }
    }

    private static void wrongWords() {
        for (int bad : new int[] {-1, 2, Integer.MIN_VALUE, Integer.MAX_VALUE}) {
            TableauBench b = Check.benchWith(Check.of(3, 1));
            Class<IndexOutOfBoundsException> due = IndexOutOfBoundsException.class;
            Check.raises("letter", due, () -> b.letter(bad, 0));
            Check.raises("cut", due, () -> b.cut(bad, -1));
            Check.raises("length", due, () -> b.length(bad));
            Check.raises("at", due, () -> b.at(bad, -1));
            Check.raises("insert", due, () -> b.insert(bad, false));
            Check.raises("recover, Q away", due, () -> b.recover(bad));
            Check.raises("fillings", due, () -> b.fillings(0, bad));
            Check.raises("rectify", due, () -> b.rectify(0, 0, bad, 9));
            b.draw(0, 1);
            Check.raises("read", due, () -> b.read(bad));
            b.shape(1, 20);
            b.draw(1, 1);
            Check.raises("read, too many boxes", due, () -> b.read(bad));
        }
    }

    private static void objectsAreApart() {
        TableauBench a = new TableauBench();
        TableauBench b = new TableauBench();
        a.shape(0, 3);
        a.letter(0, 5);
        a.insert(0, false);
        Check.text("the other object", Check.all(b), Check.all(new TableauBench()));
        a.shape(1, 2);
        Check.same("slot 0 stays", a.row(0, 0), 3);
        Check.same("slot 2 stays", a.row(2, 0), 0);
        Check.same("word 1 stays", a.length(1), 0);
    }
}
