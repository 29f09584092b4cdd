/** Promises 7 to 10: letter, cut, length, at. Their boundary cases: WordsEdgesTest. */
final class WordsTest {
    public static void main(String[] args) {
        letters();
        cuts();
        Check.end();
    }

    private static void letters() {
        Bench b = new Bench();
        for (int i = 0; i < 6; i++) {
            Check.same("length", b.length(0), i);
            Check.isTrue("letter", b.letter(0, 16 - 3 * i));
            Check.same("at " + i, b.at(0, i), 16 - 3 * i);
        }
        Check.isTrue("the other word", b.letter(1, 7));
        Check.same("the other word", b.length(1), 1);
        Check.same("the other word", b.at(1, 0), 7);
        Check.text("word", Check.word(b, 0), "16 13 10 7 4 1");
    }

    private static void cuts() {
        Bench b = new Bench();
        Check.spell(b, 0, 4, 2, 9, 9, 3);
        Check.spell(b, 1, 5, 6, 7);
        Check.isTrue("cut", b.cut(0, 3));
        Check.text("cut", Check.word(b, 0), "4 2 9");
        Check.isTrue("letter behind a cut", b.letter(0, 1));
        Check.text("letter behind a cut", Check.word(b, 0), "4 2 9 1");
        Check.text("the other word stays", Check.word(b, 1), "5 6 7");
    }
}
