/** The boundary cases that promises 11 to 15 and their terms name, sentence by sentence. */
final class InsertionEdgesTest {
    private static final int[] FAR = {Integer.MIN_VALUE, Integer.MAX_VALUE};
    private static final String FALLING = "16 15 14 13 12 11 10 9 8 7 6 5 4 3 2 1";

    public static void main(String[] args) {
        equalLettersByRows();
        equalLettersByColumns();
        firstOneThatIsGreater();
        firstOneThatIsNotLess();
        firstLetterFirst();
        beginsWithoutBoxes();
        beginsWithoutLargerOnes();
        emptyWord();
        oneLetter();
        mostRowsAndColumns();
        qIsThereThen();
        boxesThatAreNone();
        entriesOfQAway();
        recoverWhenQIsAway();
        recoverOfColumns();
        recoverOfNone();
        recoverOfMost();
        recoverChangesOneWord();
        readMostBoxes();
        readTooManyBoxes();
        readOfNone();
        readOneRowAndOneColumn();
        equivalentWithEmptyWords();
        equivalentByOneLetter();
        equivalentChangesNothing();
        Check.end();
    }

    private static void gives(boolean columns, String p, String q, int... letters) {
        Bench b = new Bench();
        Check.spell(b, 0, letters);
        Check.same("rows of " + p, b.insert(0, columns), p.split("/").length);
        Check.text("P", Check.tableau(b, false), p);
        Check.text("Q", Check.tableau(b, true), q);
    }

    private static void equalLettersByRows() {
        Check.sentence("Terms: BY ROWS: if no letter in the row is greater than x");
        gives(false, "4 4", "1 2", 4, 4);
        gives(false, "4 5", "1 2", 4, 5);
        gives(false, "4/5", "1/2", 5, 4);
        gives(false, "7 7 7 7", "1 2 3 4", 7, 7, 7, 7);
    }

    private static void equalLettersByColumns() {
        Check.sentence("Terms: BY COLUMNS: if all letters in the column are less than x");
        gives(true, "4 4", "1 2", 4, 4);
        gives(true, "4/5", "1/2", 4, 5);
        gives(true, "4 5", "1 2", 5, 4);
        gives(true, "7 7 7 7", "1 2 3 4", 7, 7, 7, 7);
    }

    private static void firstOneThatIsGreater() {
        Check.sentence("Terms: BY ROWS: else the first one that is greater is replaced by x");
        gives(false, "1 2 2/3", "1 2 4/3", 1, 3, 2, 2);
        gives(false, "2 2 3/3", "1 2 3/4", 2, 3, 3, 2);
        gives(false, "1 1/2/3", "1 4/2/3", 3, 2, 1, 1);
        gives(false, "1 3 3/2 4", "1 2 5/3 4", 2, 4, 1, 3, 3);
    }

    private static void firstOneThatIsNotLess() {
        Check.sentence("Terms: BY COLUMNS: else the first one that is not less is replaced by x");
        gives(true, "1 2/2", "1 3/2", 1, 2, 2);
        gives(true, "1 2/3", "1 3/2", 2, 3, 1);
        gives(true, "1 3/2", "1 2/3", 3, 1, 2);
        gives(true, "1 1 2/3", "1 3 4/2", 2, 3, 1, 1);
    }

    private static void firstLetterFirst() {
        Check.sentence("Terms: the first one first (by columns, too), to put its number into Q");
        gives(false, "1 3/2", "1 3/2", 2, 1, 3);
        gives(true, "1 2/3", "1 2/3", 2, 1, 3);
        gives(false, "1 3/2", "1 2/3", 2, 3, 1);
        gives(true, "1 2/3", "1 3/2", 2, 3, 1);
    }

    private static void beginsWithoutBoxes() {
        Check.sentence("Terms: TO INSERT A WORD is to begin with P and Q without boxes");
        for (int k = 0; k < 4; k++) {
            Bench b = new Bench();
            Check.spell(b, 0, 5, 4, 3, 2, 1, 1, 1, 1);
            Check.spell(b, 1, 2, 3);
            b.insert(0, k % 2 == 0);
            Check.same("rows", b.insert(1, k < 2), k < 2 ? 2 : 1);
            Check.text("P", Check.tableau(b, false), k < 2 ? "2/3" : "2 3");
            Check.text("Q", Check.tableau(b, true), k < 2 ? "1/2" : "1 2");
            Check.same("P below", b.entry(false, 2, 0), 0);
            Check.same("Q below", b.entry(true, 4, 0), 0);
        }
    }

    private static void beginsWithoutLargerOnes() {
        Check.sentence("Terms: to begin with P and Q without boxes, also after draw");
        Bench b = Check.benchWith(Check.of(17, 1, 1, 1, 1, 1, 1, 1));
        Check.spell(b, 0, 9, 9);
        b.draw(0, 3);
        Check.same("rows", b.insert(0, false), 1);
        Check.text("P", Check.tableau(b, false), "9 9");
        Check.text("Q", Check.tableau(b, true), "1 2");
        Check.same("P at 0, 16", b.entry(false, 0, 16), 0);
        Check.same("P at 7, 0", b.entry(false, 7, 0), 0);
    }

    private static void emptyWord() {
        Check.sentence("11: INSERTS a word: the number of rows of P; a word without letters");
        for (boolean columns : new boolean[] {false, true}) {
            Bench b = Check.busy();
            b.cut(0, 0);
            Check.same("rows", b.insert(0, columns), 0);
            Check.text("P", Check.tableau(b, false), "");
            Check.text("Q", Check.tableau(b, true), "");
            Check.raisesNothing("recover, as Q is there", () -> b.recover(1));
            Check.same("length of the recovered word", b.length(1), 0);
        }
    }

    private static void oneLetter() {
        Check.sentence("11: INSERTS a word, by rows or by columns; one letter");
        gives(false, "1", "1", 1);
        gives(false, "16", "1", 16);
        gives(true, "1", "1", 1);
        gives(true, "16", "1", 16);
    }

    private static Bench falling() {
        Bench b = new Bench();
        for (int v = 16; v >= 1; v--) {
            b.letter(0, v);
            b.letter(1, 17 - v);
        }
        return b;
    }

    private static void mostRowsAndColumns() {
        Check.sentence("11: the number of rows of P; 16 letters");
        for (int k = 0; k < 4; k++) {
            Bench b = falling();
            boolean columns = k >= 2;
            boolean high = k == 0 || k == 3;
            Check.same("rows", b.insert(k % 2, columns), high ? 16 : 1);
            for (int i = 0; i <= 16; i++) {
                int due = i < 16 ? i + 1 : 0;
                Check.same("P", b.entry(false, high ? i : 0, high ? 0 : i), due);
                Check.same("Q", b.entry(true, high ? i : 0, high ? 0 : i), due);
            }
        }
        Bench full = new Bench();
        Check.spell(full, 1, 3, 3, 3, 3, 3, 3, 3, 3, 3, 3, 3, 3, 3, 3, 3, 3);
        Check.same("16 equal letters by rows", full.insert(1, false), 1);
        Check.same("the last of them", full.entry(false, 0, 15), 3);
        Check.same("16 equal letters by columns", full.insert(1, true), 1);
        Check.same("the last of them", full.entry(false, 0, 15), 3);
    }

    private static void qIsThereThen() {
        Check.sentence("11: Q is there then");
        for (boolean columns : new boolean[] {false, true}) {
            Bench b = Check.benchWith(Check.of(2, 1));
            Check.spell(b, 0, 2, 1);
            b.draw(0, 1);
            Check.raises("recover before", IllegalStateException.class, () -> b.recover(1));
            b.insert(0, columns);
            Check.same("Q", b.entry(true, 0, 0), 1);
            Check.raisesNothing("recover", () -> b.recover(1));
            Check.text("the word stays", Check.word(b, 0), "2 1");
        }
    }

    private static void boxesThatAreNone() {
        Check.sentence("12: 0 when there is no such box");
        for (boolean q : new boolean[] {false, true}) {
            Bench b = new Bench();
            Check.spell(b, 0, 3, 1, 2);
            b.insert(0, false);
            Check.same("at 1, 0", b.entry(q, 1, 0), q ? 2 : 3);
            Check.same("at 0, 1", b.entry(q, 0, 1), q ? 3 : 2);
            for (int i : new int[] {-1, 2, 3, 15, 16, 17, 24, 25, 32, FAR[0], FAR[1]}) {
                Check.same("at " + i + ", 0", b.entry(q, i, 0), 0);
                Check.same("at 0, " + i, b.entry(q, 0, i), 0);
                Check.same("at " + i + ", " + i, b.entry(q, i, i), 0);
            }
            Check.same("at 1, 1", b.entry(q, 1, 1), 0);
            // Places that rows laid end to end would mix up, whatever their width.
            for (int width = 1; width <= 64; width++) {
                Check.same("behind row 0", b.entry(q, 0, 1 + width), 0);
                Check.same("before row 1", b.entry(q, 1, -width), 0);
                Check.same("before row 2", b.entry(q, 2, -2 * width), 0);
                Check.same("above, behind", b.entry(q, -1, width), 0);
            }
        }
    }

    private static void entriesOfQAway() {
        Check.sentence("12: 0 when Q is away");
        Bench b = Check.benchWith(Check.of(2, 1));
        Check.spell(b, 0, 2, 1, 3);
        b.insert(0, false);
        Check.same("Q there", b.entry(true, 0, 0), 1);
        b.turn();
        for (int r = 0; r < 3; r++) {
            for (int c = 0; c < 3; c++) {
                Check.same("Q away", b.entry(true, r, c), 0);
            }
        }
        Check.same("P", b.entry(false, 0, 0), 1);
    }

    private static void recoverWhenQIsAway() {
        Check.sentence("13: IllegalStateException when Q is away");
        for (int k = 0; k < 2; k++) {
            int word = k;
            Check.refuses("at first", IllegalStateException.class, Bench::new,
                    b -> b.recover(word));
            Check.refuses("after draw", IllegalStateException.class,
                    () -> after(b -> b.draw(0, 1)), b -> b.recover(word));
            Check.refuses("after draw without boxes", IllegalStateException.class,
                    () -> after(b -> b.draw(2, 1)), b -> b.recover(word));
            Check.refuses("after turn", IllegalStateException.class, () -> after(Bench::turn),
                    b -> b.recover(word));
            Check.refuses("after rectify", IllegalStateException.class,
                    () -> after(b -> b.rectify(1, 0, 0, 0)), b -> b.recover(word));
            Check.refuses("after rectify without letters", IllegalStateException.class,
                    () -> after(b -> {
                        b.cut(1, 0);
                        b.rectify(0, 0, 1, 0);
                    }), b -> b.recover(word));
        }
    }

    private static Bench after(Check.CallOn call) {
        Bench b = Check.benchWith(Check.of(2, 1), Check.of(1));
        Check.spell(b, 0, 2, 1);
        Check.spell(b, 1, 1, 3, 2);
        b.insert(1, false);
        call.on(b);
        return b;
    }

    private static void recoverOfColumns() {
        Check.sentence("13: inserted by rows (also when they came of an insertion by columns)");
        Bench b = new Bench();
        Check.spell(b, 0, 3, 1, 2);
        b.insert(0, true);
        b.recover(1);
        Check.text("the word that by rows gives these", Check.word(b, 1), "2 3 1");
        Check.spell(b, 0, 2, 1, 2, 1, 2);
        b.insert(0, true);
        b.recover(1);
        Check.text("the word that by rows gives these", Check.word(b, 1), "2 2 1 2 1");
    }

    private static void recoverOfNone() {
        Check.sentence("13: The word becomes the one that gives P and Q; without boxes");
        Bench b = Check.busy();
        b.cut(0, 0);
        b.insert(0, false);
        b.recover(1);
        Check.same("length", b.length(1), 0);
        Check.same("at 0", b.at(1, 0), 0);
    }

    private static void recoverOfMost() {
        Check.sentence("13: The word becomes the one that gives P and Q; 16 letters");
        for (int k = 0; k < 4; k++) {
            Bench b = falling();
            b.insert(k % 2, k >= 2);
            b.cut(0, 3);
            b.recover(0);
            boolean high = k == 0 || k == 3;
            Check.text("the word", Check.word(b, 0),
                    high ? FALLING : "1 2 3 4 5 6 7 8 9 10 11 12 13 14 15 16");
            Check.isFalse("a 17th letter", b.letter(0, 1));
        }
    }

    private static void recoverChangesOneWord() {
        Check.sentence("13: The word becomes the one that gives P and Q");
        Bench b = new Bench();
        Check.spell(b, 0, 2, 1);
        Check.spell(b, 1, 4, 4, 4, 4);
        b.insert(0, false);
        b.recover(1);
        Check.text("a shorter one", Check.word(b, 1), "2 1");
        Check.same("behind its end", b.at(1, 2), 0);
        Check.text("the other word", Check.word(b, 0), "2 1");
        Check.text("P", Check.tableau(b, false), "1/2");
        Check.text("Q", Check.tableau(b, true), "1/2");
        Check.raisesNothing("recover again", () -> b.recover(0));
    }

    private static void readMostBoxes() {
        Check.sentence("14: IllegalStateException when P has more than 16 boxes; 16 are not");
        int[][] shapes = {{16}, {2, 2, 2, 2, 2, 2, 2, 2}, {4, 4, 4, 4}};
        for (int[] rows : shapes) {
            Bench b = Check.benchWith(rows);
            b.draw(0, 7);
            Check.raisesNothing("read", () -> b.read(0));
            Check.same("length", b.length(0), 16);
            Check.same("the first letter", b.at(0, 0), b.entry(false, rows.length - 1, 0));
            Check.same("the last letter", b.at(0, 15), b.entry(false, 0, rows[0] - 1));
        }
        Bench b = falling();
        b.insert(0, false);
        b.read(1);
        Check.text("16 rows", Check.word(b, 1), FALLING);
    }

    private static void readTooManyBoxes() {
        Check.sentence("14: IllegalStateException when P has more than 16 boxes");
        int[][] shapes = {{17}, {3, 2, 2, 2, 2, 2, 2, 2}, {6, 6, 5}, {24},
            {3, 3, 3, 3, 3, 3, 3, 3}};
        for (int[] rows : shapes) {
            for (int k = 0; k < 2; k++) {
                int word = k;
                Check.refuses("read of a row 0 of " + rows[0], IllegalStateException.class, () -> {
                    Bench b = Check.busy();
                    b.shape(3, Check.bytes(rows));
                    b.draw(3, 7);
                    return b;
                }, b -> b.read(word));
            }
        }
    }

    private static void readOfNone() {
        Check.sentence("14: The word becomes the READING of P; without boxes");
        Bench b = Check.busy();
        b.shape(0, 0);
        b.draw(0, 1);
        Check.raisesNothing("read", () -> b.read(1));
        Check.same("length", b.length(1), 0);
        Check.same("at 0", b.at(1, 0), 0);
        Check.text("the other word", Check.word(b, 0), "3 1 2");
    }

    private static void readOneRowAndOneColumn() {
        Check.sentence("Terms: THE READING: the lowest row first, each from the left");
        Bench b = new Bench();
        Check.spell(b, 0, 3, 5, 5, 16);
        b.insert(0, false);
        b.read(1);
        Check.text("one row", Check.word(b, 1), "3 5 5 16");
        Check.spell(b, 0, 9, 6, 1);
        b.insert(0, false);
        b.read(1);
        Check.text("one column", Check.word(b, 1), "9 6 1");
        Check.same("behind its end", b.at(1, 3), 0);
        Check.spell(b, 0, 2, 5, 1, 4, 3);
        b.insert(0, false);
        b.read(0);
        Check.text("more of both", Check.word(b, 0), "5 2 4 1 3");
        Check.text("P stays", Check.tableau(b, false), "1 3/2 4/5");
        Check.text("Q stays", Check.tableau(b, true), "1 2/3 4/5");
    }

    private static void equivalentWithEmptyWords() {
        Check.sentence("15: Whether both words give the same P; empty ones");
        Bench b = new Bench();
        Check.isTrue("both empty", b.equivalent());
        b.letter(0, 1);
        Check.isFalse("word 1 empty", b.equivalent());
        b.letter(1, 1);
        Check.isTrue("both 1", b.equivalent());
        b.cut(0, 0);
        Check.isFalse("word 0 empty", b.equivalent());
    }

    private static void equivalentByOneLetter() {
        Check.sentence("15: Whether both words, inserted by rows, give the same P");
        Bench b = falling();
        Check.isFalse("a column and a row", b.equivalent());
        Check.spell(b, 1, 16, 15, 14, 13, 12, 11, 10, 9, 8, 7, 6, 5, 4, 3, 2, 1);
        Check.isTrue("16 letters each, the same", b.equivalent());
        b.cut(1, 15);
        Check.isFalse("a letter less", b.equivalent());
        b.letter(1, 2);
        Check.isFalse("another last letter", b.equivalent());
        Check.spell(b, 0, 1, 3, 2);
        Check.spell(b, 1, 3, 1, 2);
        Check.isTrue("1 3 2 and 3 1 2", b.equivalent());
        Check.spell(b, 1, 2, 3, 1);
        Check.isFalse("1 3 2 and 2 3 1", b.equivalent());
        Check.spell(b, 0, 2, 2, 1);
        Check.spell(b, 1, 2, 1, 2);
        Check.isTrue("2 2 1 and 2 1 2", b.equivalent());
        Check.spell(b, 0, 1, 2, 2);
        Check.isFalse("1 2 2 and 2 1 2", b.equivalent());
    }

    private static void equivalentChangesNothing() {
        Check.sentence("15: Nothing on the bench changes");
        Check.changesNothing("equivalent, false", Check::busy, Bench::equivalent);
        Check.Scene same = () -> {
            Bench b = Check.busy();
            Check.spell(b, 0, 1, 1, 2, 1);
            Check.spell(b, 1, 1, 2, 1, 1);
            return b;
        };
        Check.changesNothing("equivalent, true or false", same, Bench::equivalent);
        Check.changesNothing("equivalent, Q away", () -> after(b -> b.draw(0, 1)),
                Bench::equivalent);
        Check.changesNothing("equivalent, at first", Bench::new, Bench::equivalent);
    }
}
