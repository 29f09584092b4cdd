/** The limits that "What it is" and "Terms" name, and promise 1: a new object. */
final class TermsEdgesTest {
    // As Check.all tells of a bench without boxes and letters; behind it, what recover gave.
    private static final String NOTHING =
            "slot ; slot ; slot ; slot ; word ; word ; P ; Q ; recovered ";

    public static void main(String[] args) {
        slotsAtFirst();
        wordsAtFirst();
        tableauxAtFirst();
        qAtFirst();
        allSlotsAndWords();
        countsAtFirst();
        objectsAreApart();
        mostBoxesInMostRows();
        mostLetters();
        untilTheLastCall();
        Check.end();
    }

    private static void slotsAtFirst() {
        Check.sentence("1: All slots empty");
        for (int slot = 0; slot < 4; slot++) {
            Bench b = new Bench();
            for (int i = -1; i <= 8; i++) {
                Check.same("row " + i + " of slot " + slot, b.row(slot, i), 0);
            }
        }
    }

    private static void wordsAtFirst() {
        Check.sentence("1: All words empty");
        for (int word = 0; word < 2; word++) {
            Bench b = new Bench();
            Check.same("length of word " + word, b.length(word), 0);
            for (int i = -1; i <= 16; i++) {
                Check.same("at " + i + " of word " + word, b.at(word, i), 0);
            }
        }
    }

    private static void tableauxAtFirst() {
        Check.sentence("1: P without boxes");
        Bench b = new Bench();
        for (int r = -1; r <= 8; r++) {
            for (int c = -1; c <= 24; c++) {
                Check.same("P at " + r + ", " + c, b.entry(false, r, c), 0);
            }
        }
        b.letter(1, 5);
        b.read(1);
        Check.same("length of the reading of P", b.length(1), 0);
        Check.raisesNothing("turn of P, standard without boxes", b::turn);
    }

    private static void qAtFirst() {
        Check.sentence("1: Q away");
        Bench b = new Bench();
        Check.same("Q at 0, 0", b.entry(true, 0, 0), 0);
        Check.refuses("recover(0)", IllegalStateException.class, Bench::new, x -> x.recover(0));
        Check.refuses("recover(1)", IllegalStateException.class, Bench::new, x -> x.recover(1));
    }

    private static void allSlotsAndWords() {
        Check.sentence("Terms: There are four SLOTS 0 .. 3 .. Two WORDS, 0 and 1");
        Bench b = new Bench();
        for (int slot = 0; slot < 4; slot++) {
            Check.isTrue("shape of slot " + slot, b.shape(slot, slot + 1));
        }
        for (int slot = 0; slot < 4; slot++) {
            Check.same("slot " + slot + " has its own", b.row(slot, 0), slot + 1);
        }
        Check.isTrue("letter of word 0", b.letter(0, 7));
        Check.isTrue("letter of word 1", b.letter(1, 8));
        Check.same("word 0 has its own", b.at(0, 0), 7);
        Check.same("word 1 has its own", b.at(1, 0), 8);
    }

    private static void countsAtFirst() {
        Check.sentence("Terms: at first without boxes; at first without any");
        Bench b = new Bench();
        Check.same("rank", b.rank(3), 0);
        Check.isTrue("conjugate", b.conjugate(3));
        Check.isTrue("cut to none", b.cut(1, 0));
        Check.same("standard", b.standard(3), 1);
        Check.same("fillings", b.fillings(3, 1), 1);
        Check.same("coefficient", b.coefficient(1, 2, 3), 1);
        Check.same("character", b.character(2, 3), 1);
        Check.isTrue("equivalent", b.equivalent());
        Check.same("rectify", b.rectify(2, 3, 1, 2), 0);
        Check.same("draw", b.draw(3, 9), 9);
        Check.same("insert", b.insert(1, true), 0);
        Check.text("all", Check.all(b), NOTHING);
    }

    private static void objectsAreApart() {
        Check.sentence("1: A new object");
        Check.busy();
        Check.text("an object beside a busy one", Check.all(new Bench()),
                NOTHING + "IllegalStateException");
    }

    private static void mostBoxesInMostRows() {
        Check.sentence("Terms: a shape of at most 24 boxes in at most 8 rows");
        Bench b = Check.benchWith(Check.of(24), Check.of(3, 3, 3, 3, 3, 3, 3, 3),
                Check.of(17, 1, 1, 1, 1, 1, 1, 1), Check.of(12, 12));
        Check.text("24 boxes in a row", Check.slot(b, 0), "24");
        Check.text("24 boxes in 8 rows", Check.slot(b, 1), "3 3 3 3 3 3 3 3");
        Check.text("24 boxes in a hook", Check.slot(b, 2), "17 1 1 1 1 1 1 1");
        Check.text("24 boxes in two rows", Check.slot(b, 3), "12 12");
    }

    private static void mostLetters() {
        Check.sentence("Terms: rows of at most 16 LETTERS 1 .. 16");
        for (int word = 0; word < 2; word++) {
            Bench b = new Bench();
            for (int i = 0; i < 16; i++) {
                Check.isTrue("letter number " + i, b.letter(word, i % 2 == 0 ? 1 : 16));
            }
            Check.isFalse("letter number 16", b.letter(word, 1));
            Check.text("the word", Check.word(b, word), "1 16 1 16 1 16 1 16 1 16 1 16 1 16 1 16");
            Check.isTrue("the other one has room", b.letter(1 - word, 1));
        }
    }

    /** Each call, made again and again, answers the 512th time as the first time. */
    private static void untilTheLastCall() {
        Check.sentence("What it is: An object is used for at most 512 calls");
        lastAnswer("shape", b -> b.shape(1, 25) ? 1 : 0, 0);
        lastAnswer("row", b -> b.row(2, 0), 6);
        lastAnswer("conjugate", b -> b.conjugate(0) ? 1 : 0, 1);
        lastAnswer("rank", b -> b.rank(0), 22);
        lastAnswer("letter", b -> b.letter(0, 1) ? 1 : 0, 0);
        lastAnswer("cut", b -> b.cut(1, 11) ? 1 : 0, 1);
        lastAnswer("length", b -> b.length(0), 16);
        lastAnswer("at", b -> b.at(0, 15), 9);
        lastAnswer("insert by rows", b -> b.insert(0, false), 8);
        lastAnswer("insert by columns", b -> b.insert(0, true), 2);
        lastAnswer("entry", b -> b.entry(true, 5, 0), 10);
        lastAnswer("equivalent", b -> b.equivalent() ? 1 : 0, 0);
        lastAnswer("rectify", b -> b.rectify(0, 2, 1, 2), 10);
        lastAnswer("draw", b -> b.draw(0, 1), plainDraw());
        lastAnswer("standard", b -> b.standard(0), 768);
        lastAnswer("fillings", b -> b.fillings(3, 0), 928746);
        lastAnswer("coefficient", b -> b.coefficient(0, 1, 2), 24);
        lastAnswer("character", () -> Check.benchWith(Check.of(5, 4, 3, 2),
                Check.of(3, 3, 3, 1, 1, 1, 1, 1)), b -> b.character(0, 1), -12);
    }

    private static long plainDraw() {
        PlainBench plain = new PlainBench();
        plain.shape(0, Check.bytes(4, 3, 2, 1));
        return plain.draw(0, 1);
    }

    private interface Asked {
        long of(Bench b);
    }

    private static void lastAnswer(String call, Asked asked, long due) {
        lastAnswer(call, TermsEdgesTest::manyBoxes, asked, due);
    }

    private static void lastAnswer(String call, Check.Scene scene, Asked asked, long due) {
        Bench b = scene.made();
        while (b.callsLeft() > 1) {
            asked.of(b);
        }
        Check.same(call + " as the 512th call", asked.of(b), due);
    }

    private static Bench manyBoxes() {
        Bench b = Check.benchWith(Check.of(4, 3, 2, 1), Check.of(5, 3, 2, 1),
                Check.of(6, 5, 4, 3, 2, 1), Check.of(6, 4, 2, 2, 1, 1));
        Check.spell(b, 0, 8, 16, 7, 15, 6, 14, 5, 13, 4, 12, 3, 11, 2, 10, 1, 9);
        Check.spell(b, 1, 6, 5, 5, 4, 4, 3, 3, 2, 2, 1, 1);
        b.insert(1, false);
        return b;
    }
}
