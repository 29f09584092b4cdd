/** Promises 7 to 10: letter, cut, length, at. */
final class WordsTest {
    public static void main(String[] args) {
        letters();
        cuts();
        places();
        Check.end();
    }

    private static void letters() {
        TableauBench b = new TableauBench();
        for (int v : new int[] {0, -1, 17, Integer.MIN_VALUE, Integer.MAX_VALUE}) {
            Check.isFalse("letter " + v, b.letter(0, v));
        }
        Check.same("length", b.length(0), 0);
        for (int v = 1; v <= 16; v++) {
            Check.isTrue("letter " + v, b.letter(0, 17 - v));
            Check.same("length", b.length(0), v);
        }
        Check.isFalse("a letter too many", b.letter(0, 1));
        Check.same("length", b.length(0), 16);
        Check.text("word", Check.word(b, 0), "16 15 14 13 12 11 10 9 8 7 6 5 4 3 2 1");
        Check.same("the other word", b.length(1), 0);
        Check.isTrue("the other word", b.letter(1, 7));
        Check.same("the other word", b.at(1, 0), 7);
    }

    private static void cuts() {
        TableauBench b = new TableauBench();
        Check.isTrue("cut of none to none", b.cut(0, 0));
        Check.isFalse("cut of none to one", b.cut(0, 1));
        Check.spell(b, 0, 4, 2, 9);
        Check.isFalse("negative", b.cut(0, -1));
        Check.isFalse("least", b.cut(0, Integer.MIN_VALUE));
        Check.isFalse("one too many", b.cut(0, 4));
        Check.isTrue("all", b.cut(0, 3));
        Check.text("all", Check.word(b, 0), "4 2 9");
        Check.isTrue("two", b.cut(0, 2));
        Check.text("two", Check.word(b, 0), "4 2");
        Check.isFalse("what is cut is gone", b.cut(0, 3));
        Check.same("what is cut is gone", b.at(0, 2), 0);
        Check.isTrue("a new letter", b.letter(0, 1));
        Check.text("a new letter", Check.word(b, 0), "4 2 1");
        Check.isTrue("none", b.cut(0, 0));
        Check.text("none", Check.word(b, 0), "");
    }

    private static void places() {
        TableauBench b = new TableauBench();
        Check.spell(b, 1, 16, 1, 5);
        int[] due = {16, 1, 5};
        for (int i = 0; i < 3; i++) {
            Check.same("at " + i, b.at(1, i), due[i]);
        }
        for (int i : new int[] {-1, 3, 16, 17, Integer.MIN_VALUE, Integer.MAX_VALUE}) {
            Check.same("at " + i, b.at(1, i), 0);
        }
    }
}
