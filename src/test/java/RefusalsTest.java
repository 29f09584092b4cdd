/** What the last paragraph of "Terms" says of all calls. */
final class RefusalsTest {
    private static final Class<IndexOutOfBoundsException> BOUNDS = IndexOutOfBoundsException.class;
    private static final Class<IllegalArgumentException> ARGUMENT = IllegalArgumentException.class;
    private static final Class<IllegalStateException> STATE = IllegalStateException.class;

    public static void main(String[] args) {
        for (int bad : new int[] {-1, 4, 5, Integer.MIN_VALUE, Integer.MAX_VALUE}) {
            wrongSlots(bad);
        }
        for (int bad : new int[] {-1, 2, 3, Integer.MIN_VALUE, Integer.MAX_VALUE}) {
            wrongWords(bad);
        }
        lastSlotsAndWords();
        boundsBeforeNo();
        boundsBeforeZero();
        firstOfUnrank();
        firstOfRecover();
        firstOfRead();
        firstOfRectify();
        firstOfCharacter();
        Check.end();
    }

    private static void refuses(String call, Class<? extends RuntimeException> due,
            Check.CallOn run) {
        Check.refuses(call, due, Check::busy, run);
    }

    /** With arguments that are otherwise right, so that the slot alone is wrong. */
    private static void wrongSlots(int bad) {
        Check.sentence("Terms: Numbers of slots that there are none of are refused by all calls");
        refuses("shape(" + bad + ")", BOUNDS, b -> b.shape(bad, 1));
        refuses("row(" + bad + ")", BOUNDS, b -> b.row(bad, 0));
        refuses("conjugate(" + bad + ")", BOUNDS, b -> b.conjugate(bad));
        refuses("rank(" + bad + ")", BOUNDS, b -> b.rank(bad));
        refuses("unrank(" + bad + ")", BOUNDS, b -> b.unrank(bad, 3, 0));
        refuses("rectify, inner " + bad, BOUNDS, b -> b.rectify(bad, 0, 0, 0));
        refuses("rectify, outer " + bad, BOUNDS, b -> b.rectify(0, bad, 0, 0));
        refuses("draw(" + bad + ")", BOUNDS, b -> b.draw(bad, 1));
        refuses("standard(" + bad + ")", BOUNDS, b -> b.standard(bad));
        refuses("fillings(" + bad + ")", BOUNDS, b -> b.fillings(bad, 1));
        refuses("coefficient, a " + bad, BOUNDS, b -> b.coefficient(bad, 0, 0));
        refuses("coefficient, b " + bad, BOUNDS, b -> b.coefficient(0, bad, 0));
        refuses("coefficient, c " + bad, BOUNDS, b -> b.coefficient(0, 0, bad));
        refuses("character, slot " + bad, BOUNDS, b -> b.character(bad, 0));
        refuses("character, type " + bad, BOUNDS, b -> b.character(0, bad));
    }

    private static void wrongWords(int bad) {
        Check.sentence("Terms: Numbers of words that there are none of are refused by all calls");
        refuses("letter(" + bad + ")", BOUNDS, b -> b.letter(bad, 1));
        refuses("cut(" + bad + ")", BOUNDS, b -> b.cut(bad, 0));
        refuses("length(" + bad + ")", BOUNDS, b -> b.length(bad));
        refuses("at(" + bad + ")", BOUNDS, b -> b.at(bad, 0));
        refuses("insert(" + bad + ") by rows", BOUNDS, b -> b.insert(bad, false));
        refuses("insert(" + bad + ") by columns", BOUNDS, b -> b.insert(bad, true));
        refuses("recover(" + bad + ")", BOUNDS, b -> b.recover(bad));
        refuses("read(" + bad + ")", BOUNDS, b -> b.read(bad));
        refuses("rectify, word " + bad, BOUNDS, b -> b.rectify(0, 0, bad, 0));
        refuses("fillings, word " + bad, BOUNDS, b -> b.fillings(2, bad));
    }

    /** The last slot is 3, the last word 1: no call that has them refuses these. */
    private static void lastSlotsAndWords() {
        Check.sentence("Terms: There are four SLOTS 0 .. 3 .. Two WORDS, 0 and 1");
        for (int slot : new int[] {0, 3}) {
            Bench b = new Bench();
            Check.raisesNothing("shape", () -> b.shape(slot, 1));
            Check.raisesNothing("row", () -> b.row(slot, 0));
            Check.raisesNothing("conjugate", () -> b.conjugate(slot));
            Check.raisesNothing("rank", () -> b.rank(slot));
            Check.raisesNothing("unrank", () -> b.unrank(slot, 1, 0));
            Check.raisesNothing("rectify", () -> b.rectify(slot, slot, 0, 0));
            Check.raisesNothing("draw", () -> b.draw(slot, 1));
            Check.raisesNothing("standard", () -> b.standard(slot));
            Check.raisesNothing("fillings", () -> b.fillings(slot, 0));
            Check.raisesNothing("coefficient", () -> b.coefficient(slot, slot, slot));
            Check.raisesNothing("character", () -> b.character(slot, slot));
        }
        for (int word : new int[] {0, 1}) {
            Bench b = Check.benchWith(Check.of(1));
            Check.raisesNothing("letter", () -> b.letter(word, 1));
            Check.raisesNothing("cut", () -> b.cut(word, 1));
            Check.raisesNothing("length", () -> b.length(word));
            Check.raisesNothing("at", () -> b.at(word, 0));
            Check.raisesNothing("insert", () -> b.insert(word, false));
            Check.raisesNothing("recover", () -> b.recover(word));
            Check.raisesNothing("read", () -> b.read(word));
            Check.raisesNothing("rectify", () -> b.rectify(1, 0, word, 0));
            Check.raisesNothing("fillings", () -> b.fillings(0, word));
        }
    }

    private static void boundsBeforeNo() {
        Check.sentence("Terms: refused with IndexOutOfBoundsException by all calls that have them");
        refuses("shape of a slot that is none, no shape", BOUNDS, b -> b.shape(4, -1));
        refuses("shape of a slot that is none, 25 boxes", BOUNDS, b -> b.shape(-1, 25));
        refuses("row of a slot that is none, no row", BOUNDS, b -> b.row(4, 8));
        refuses("row of a slot that is none, below 0", BOUNDS, b -> b.row(-1, -1));
        refuses("letter of a word that is none, no letter", BOUNDS, b -> b.letter(2, 0));
        refuses("letter of a word that is none, 17", BOUNDS, b -> b.letter(-1, 17));
        refuses("cut of a word that is none, negative", BOUNDS, b -> b.cut(2, -1));
        refuses("cut of a word that is none, too many", BOUNDS, b -> b.cut(-1, 17));
        refuses("at of a word that is none, no place", BOUNDS, b -> b.at(2, 16));
        refuses("at of a word that is none, below 0", BOUNDS, b -> b.at(-1, -1));
    }

    /** Where the slots and words that there are would already make the answer 0. */
    private static void boundsBeforeZero() {
        Check.sentence("Terms: refused with IndexOutOfBoundsException by all calls that have them");
        refuses("fillings, no slot, no such word", BOUNDS, b -> b.fillings(4, 2));
        refuses("fillings, too few letters in 0", BOUNDS, b -> b.fillings(0, 2));
        refuses("coefficient, a too great", BOUNDS, b -> b.coefficient(0, 4, 1));
        refuses("coefficient, c not a and b", BOUNDS, b -> b.coefficient(-1, 0, 1));
        refuses("coefficient, all wrong", BOUNDS, b -> b.coefficient(4, 4, 4));
        Check.Scene great = () -> Check.benchWith(Check.of(24), Check.of(23, 1), Check.of(17));
        Check.refuses("coefficient, 48 boxes, no c", BOUNDS, great, b -> b.coefficient(0, 1, 4));
        Check.refuses("coefficient, 24 of 17 boxes, no b", BOUNDS, great,
                b -> b.coefficient(0, -1, 2));
        Check.refuses("coefficient, 24 of 17 boxes, no a", BOUNDS, great,
                b -> b.coefficient(4, 0, 2));
        Check.refuses("fillings of 17 boxes, no word", BOUNDS, great, b -> b.fillings(2, 2));
        Check.refuses("fillings of an empty slot", BOUNDS, Bench::new, b -> b.fillings(0, 2));
        Check.refuses("coefficient of empty slots", BOUNDS, Bench::new,
                b -> b.coefficient(0, 0, 4));
        Check.refuses("insert of no word", BOUNDS, Bench::new, b -> b.insert(2, false));
        Check.refuses("draw of no slot", BOUNDS, Bench::new, b -> b.draw(4, 1));
        Check.refuses("standard of no slot", BOUNDS, Bench::new, b -> b.standard(4));
    }

    private static void firstOfUnrank() {
        Check.sentence("Terms: the one that it names first; 6: unrank");
        refuses("slot and n", BOUNDS, b -> b.unrank(4, 25, 0));
        refuses("slot and rank", BOUNDS, b -> b.unrank(-1, 3, 3));
        refuses("slot and rank below 0", BOUNDS, b -> b.unrank(4, 3, -1));
        refuses("slot and too many rows", BOUNDS, b -> b.unrank(4, 9, 29));
        refuses("slot, n and rank", BOUNDS, b -> b.unrank(4, -1, -1));
        refuses("n below 0 and rank below 0", ARGUMENT, b -> b.unrank(0, -1, -1));
        refuses("n below 0 and rank 0", ARGUMENT, b -> b.unrank(0, -1, 0));
        refuses("n too great and rank below 0", ARGUMENT, b -> b.unrank(0, 25, -1));
        refuses("n too great and rank too great", ARGUMENT,
                b -> b.unrank(0, 25, Integer.MAX_VALUE));
    }

    private static void firstOfRecover() {
        Check.sentence("Terms: the one that it names first; 13: recover");
        for (int bad : new int[] {-1, 2}) {
            Check.refuses("word, and Q away at first", BOUNDS, Bench::new, b -> b.recover(bad));
            Check.refuses("word, and Q away since draw", BOUNDS,
                    () -> drawn(Check.of(2, 1)), b -> b.recover(bad));
        }
    }

    private static void firstOfRead() {
        Check.sentence("Terms: the one that it names first; 14: read");
        for (int bad : new int[] {-1, 2}) {
            Check.refuses("word, and 17 boxes", BOUNDS, () -> drawn(Check.of(17)),
                    b -> b.read(bad));
        }
    }

    private static Bench drawn(int[] rows) {
        Bench b = Check.benchWith(rows);
        Check.spell(b, 0, 4, 4);
        Check.spell(b, 1, 5);
        b.draw(0, 1);
        return b;
    }

    /** Slots 0 to 3: 3; 2 2; 1; none. Word 0 has 3 letters, which fit no three of these boxes. */
    private static Bench skew() {
        Bench b = Check.benchWith(Check.of(3), Check.of(2, 2), Check.of(1), Check.of());
        Check.spell(b, 0, 1, 1, 9);
        Check.spell(b, 1, 2, 1);
        b.insert(1, false);
        return b;
    }

    private static void refusesSkew(String call, Class<? extends RuntimeException> due, int inner,
            int outer, int word, int order) {
        Check.refuses(call, due, RefusalsTest::skew,
                b -> b.rectify(inner, outer, word, order));
    }

    private static void firstOfRectify() {
        Check.sentence("Terms: the one that it names first; 16: rectify");
        refusesSkew("inner slot and order", BOUNDS, 4, 1, 0, 3);
        refusesSkew("outer slot and order", BOUNDS, 0, -1, 0, -1);
        refusesSkew("word and order", BOUNDS, 2, 1, 2, 3);
        refusesSkew("word, and outer has not all", BOUNDS, 0, 1, -1, 0);
        refusesSkew("inner slot and another number of letters", BOUNDS, -1, 1, 0, 0);
        refusesSkew("outer slot and another number of letters", BOUNDS, 3, 4, 0, 0);
        refusesSkew("order and another number of letters", ARGUMENT, 3, 1, 0, 3);
        refusesSkew("order and not column-strict", ARGUMENT, 2, 1, 0, -1);
        refusesSkew("order, and outer has not all", ARGUMENT, 0, 1, 0, 3);
        refusesSkew("outer has not all, another number of letters", ARGUMENT, 0, 1, 0, 0);
        refusesSkew("outer has fewer, another number of letters", ARGUMENT, 1, 2, 0, 1);
        refusesSkew("a letter too few, not column-strict", STATE, 3, 1, 0, 0);
        refusesSkew("a letter too many, not column-strict", STATE, 2, 0, 0, 2);
        refusesSkew("not column-strict alone", UnsupportedOperationException.class, 2, 1, 0, 2);
    }

    private static void firstOfCharacter() {
        Check.sentence("Terms: the one that it names first; 22: character");
        Check.Scene great = () -> Check.benchWith(Check.of(15), Check.of(14, 1), Check.of(16),
                Check.of(3));
        Check.refuses("type, and 15 boxes", BOUNDS, great, b -> b.character(0, 4));
        Check.refuses("slot, and 15 boxes", BOUNDS, great, b -> b.character(-1, 0));
        Check.refuses("15 and 16 boxes", STATE, great, b -> b.character(0, 2));
        Check.refuses("16 and 15 boxes", STATE, great, b -> b.character(2, 1));
        Check.refuses("15 and 3 boxes", STATE, great, b -> b.character(1, 3));
        Check.refuses("3 and 16 boxes", STATE, great, b -> b.character(3, 2));
        Check.refuses("15 and 15 boxes", UnsupportedOperationException.class, great,
                b -> b.character(0, 1));
    }
}
