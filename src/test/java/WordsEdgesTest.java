/** The boundary cases that promises 7 to 10 name, sentence by sentence. */
final class WordsEdgesTest {
    private static final int[] FAR = {Integer.MIN_VALUE, Integer.MAX_VALUE};

    public static void main(String[] args) {
        leastAndGreatestLetter();
        noLetter();
        sixteenLetters();
        noLetterAndNoRoom();
        roomAfterCut();
        cutToNone();
        cutToAll();
        cutNegative();
        cutNotSoMany();
        cutIsGone();
        lengths();
        placesThatAreNone();
        Check.end();
    }

    private static Bench full() {
        Bench b = Check.busy();
        Check.spell(b, 0, 16, 15, 14, 13, 12, 11, 10, 9, 8, 7, 6, 5, 4, 3, 2, 1);
        Check.spell(b, 1, 1, 1, 1, 1, 1, 1, 1, 1, 2, 2, 2, 2, 2, 2, 2, 2);
        return b;
    }

    private static void leastAndGreatestLetter() {
        Check.sentence("Terms: LETTERS 1 .. 16; 7: A letter more in a word");
        for (int word = 0; word < 2; word++) {
            Bench b = new Bench();
            Check.isTrue("letter 1", b.letter(word, 1));
            Check.isTrue("letter 16", b.letter(word, 16));
            Check.text("the word", Check.word(b, word), "1 16");
            Check.same("the other word", b.length(1 - word), 0);
        }
    }

    private static void noLetter() {
        Check.sentence("7: False when it is none");
        for (int v : new int[] {0, 17, -1, 18, 257, -16, FAR[0], FAR[1]}) {
            Check.saysNo("letter " + v, Check::busy, b -> b.letter(0, v));
            Check.saysNo("letter " + v, Check::busy, b -> b.letter(1, v));
            Check.saysNo("letter " + v + " first", Bench::new, b -> b.letter(0, v));
        }
    }

    private static void sixteenLetters() {
        Check.sentence("7: False when there are 16");
        Bench b = new Bench();
        Check.spell(b, 0, 1, 2, 3, 4, 5, 6, 7, 8, 9, 10, 11, 12, 13, 14, 15);
        Check.isTrue("the 16th letter", b.letter(0, 16));
        Check.same("the 16th letter", b.at(0, 15), 16);
        Check.saysNo("the 17th letter of word 0", WordsEdgesTest::full, x -> x.letter(0, 1));
        Check.saysNo("the 17th letter of word 1", WordsEdgesTest::full, x -> x.letter(1, 16));
    }

    private static void noLetterAndNoRoom() {
        Check.sentence("7: False when it is none, or there are 16");
        Check.saysNo("letter 0, the 17th", WordsEdgesTest::full, b -> b.letter(0, 0));
        Check.saysNo("letter 17, the 17th", WordsEdgesTest::full, b -> b.letter(1, 17));
    }

    private static void roomAfterCut() {
        Check.sentence("7: there are 16; 8: keeps its first n letters");
        Bench b = full();
        Check.isTrue("cut to 15", b.cut(0, 15));
        Check.isTrue("letter", b.letter(0, 9));
        Check.text("the word", Check.word(b, 0), "16 15 14 13 12 11 10 9 8 7 6 5 4 3 2 9");
        Check.isFalse("letter", b.letter(0, 9));
    }

    private static void cutToNone() {
        Check.sentence("8: The word keeps its first n letters; none of them");
        Bench b = full();
        Check.isTrue("cut to 0", b.cut(1, 0));
        Check.same("length", b.length(1), 0);
        Check.isTrue("cut of an empty word to 0", b.cut(1, 0));
        Check.same("length", b.length(1), 0);
        Check.same("the other word stays", b.length(0), 16);
    }

    private static void cutToAll() {
        Check.sentence("8: The word keeps its first n letters; all of them");
        Check.changesNothing("cut to 16", WordsEdgesTest::full, b -> b.cut(0, 16));
        Bench b = full();
        Check.isTrue("cut of 16 to 16", b.cut(0, 16));
        Check.isTrue("cut of 16 to 1", b.cut(0, 1));
        Check.isTrue("cut of 1 to 1", b.cut(0, 1));
        Check.text("the word", Check.word(b, 0), "16");
    }

    private static void cutNegative() {
        Check.sentence("8: False when n is negative");
        for (int n : new int[] {-1, -16, FAR[0]}) {
            Check.saysNo("cut to " + n, Check::busy, b -> b.cut(0, n));
            Check.saysNo("cut to " + n, Check::busy, b -> b.cut(1, n));
            Check.saysNo("cut of an empty word to " + n, Bench::new, b -> b.cut(0, n));
        }
    }

    private static void cutNotSoMany() {
        Check.sentence("8: False when it has not so many");
        Check.saysNo("cut of 3 to 4", Check::busy, b -> b.cut(0, 4));
        Check.saysNo("cut of 5 to 6", Check::busy, b -> b.cut(1, 6));
        Check.saysNo("cut of 3 to 16", Check::busy, b -> b.cut(0, 16));
        Check.saysNo("cut of 3 to the greatest", Check::busy, b -> b.cut(0, FAR[1]));
        Check.saysNo("cut of none to 1", Bench::new, b -> b.cut(0, 1));
        Check.saysNo("cut of 16 to 17", WordsEdgesTest::full, b -> b.cut(1, 17));
    }

    private static void cutIsGone() {
        Check.sentence("8: False when it has not so many; what was cut it has not");
        Bench b = full();
        b.cut(0, 2);
        Check.isFalse("cut of 2 to 3", b.cut(0, 3));
        Check.same("at 2", b.at(0, 2), 0);
        Check.same("length", b.length(0), 2);
    }

    private static void lengths() {
        Check.sentence("9: How many letters a word has");
        Bench b = new Bench();
        Check.same("none", b.length(0), 0);
        for (int i = 1; i <= 16; i++) {
            b.letter(0, 17 - i);
            Check.same("letters", b.length(0), i);
        }
        b.letter(0, 1);
        Check.same("never 17", b.length(0), 16);
        Check.same("the other word", b.length(1), 0);
    }

    private static void placesThatAreNone() {
        Check.sentence("10: Letter i of a word; 0 when there is none");
        Bench b = full();
        Check.same("at 0", b.at(0, 0), 16);
        Check.same("at 15", b.at(0, 15), 1);
        for (int i : new int[] {-1, 16, 17, -16, FAR[0], FAR[1]}) {
            Check.same("at " + i, b.at(0, i), 0);
            Check.same("at " + i, b.at(1, i), 0);
        }
        Bench few = Check.busy();
        Check.same("at 2 of 3", few.at(0, 2), 2);
        Check.same("at 3 of 3", few.at(0, 3), 0);
        Check.same("at 0 of none", new Bench().at(1, 0), 0);
    }
}
