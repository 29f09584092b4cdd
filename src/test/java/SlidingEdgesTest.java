/** The boundary cases that promises 16 and 17 and their terms name, sentence by sentence. */
final class SlidingEdgesTest {
    private static final Class<IllegalArgumentException> ARGUMENT = IllegalArgumentException.class;
    private static final Class<IllegalStateException> STATE = IllegalStateException.class;
    private static final Class<UnsupportedOperationException> UNSUPPORTED =
            UnsupportedOperationException.class;

    public static void main(String[] args) {
        orders();
        noSuchOrder();
        outerHasAllBoxes();
        outerHasNotAllBoxes();
        anotherNumberOfLetters();
        rowsOfColumnStrict();
        columnsOfColumnStrict();
        boxesApart();
        theOneBelowOfTheSame();
        theOtherIsNotThere();
        innerIsOuter();
        noInnerBoxes();
        mostBoxes();
        benchAfterRectify();
        turnWithoutBoxes();
        turnOneBox();
        turnOneRowOrColumn();
        turnMostBoxes();
        turnNotStandard();
        turnAfterEachWay();
        benchAfterTurn();
        Check.end();
    }

    private static void slides(String p, int slides, int[] inner, int[] outer, int... word) {
        for (int order = 0; order < 3; order++) {
            Bench b = Check.busy();
            Check.isTrue("inner", b.shape(3, Check.bytes(inner)));
            Check.isTrue("outer", b.shape(2, Check.bytes(outer)));
            Check.spell(b, 1, word);
            Check.same("slides of order " + order, b.rectify(3, 2, 1, order), slides);
            Check.text("P of order " + order, Check.tableau(b, false), p);
            Check.text("Q of order " + order, Check.tableau(b, true), "");
            Check.raises("recover, Q away", STATE, () -> b.recover(0));
        }
    }

    private static void refuses(Class<? extends RuntimeException> due, int[] inner, int[] outer,
            int order, int... word) {
        Check.refuses("rectify", due, () -> {
            Bench b = Check.busy();
            b.shape(3, Check.bytes(inner));
            b.shape(2, Check.bytes(outer));
            Check.spell(b, 0, word);
            return b;
        }, b -> b.rectify(3, 2, 0, order));
    }

    private static void orders() {
        Check.sentence("16: order 0 .. 2");
        slides("1 2 2/3/4", 3, Check.of(2, 1), Check.of(3, 3, 2), 1, 4, 2, 3, 2);
        slides("1 1/2 2", 4, Check.of(2, 2), Check.of(4, 3, 1), 2, 2, 1, 1);
    }

    private static void noSuchOrder() {
        Check.sentence("16: IllegalArgumentException when order is not 0 .. 2");
        for (int order : new int[] {-1, 3, 4, Integer.MIN_VALUE, Integer.MAX_VALUE}) {
            refuses(ARGUMENT, Check.of(1), Check.of(2, 1), order, 1, 2);
            refuses(ARGUMENT, Check.of(), Check.of(), order);
        }
    }

    private static void outerHasAllBoxes() {
        Check.sentence("Terms: an inner one (all of whose boxes are the outer one's, too)");
        slides("1", 2, Check.of(1, 1), Check.of(2, 1), 1);
        slides("1", 7, Check.of(1, 1, 1, 1, 1, 1, 1), Check.of(1, 1, 1, 1, 1, 1, 1, 1), 1);
        slides("1", 23, Check.of(23), Check.of(24), 1);
    }

    private static void outerHasNotAllBoxes() {
        Check.sentence("16: IllegalArgumentException when outer has not all boxes of inner");
        refuses(ARGUMENT, Check.of(1), Check.of(), 0);
        refuses(ARGUMENT, Check.of(3), Check.of(2, 2), 0, 1);
        refuses(ARGUMENT, Check.of(1, 1), Check.of(4), 1, 1, 1);
        refuses(ARGUMENT, Check.of(2, 2), Check.of(5, 1), 2, 1, 1);
        refuses(ARGUMENT, Check.of(24), Check.of(23, 1), 0);
        refuses(ARGUMENT, Check.of(1, 1, 1, 1, 1, 1, 1, 1), Check.of(2, 2, 1, 1, 1, 1, 1), 0, 1);
        refuses(ARGUMENT, Check.of(2, 1, 1, 1, 1, 1, 1, 1), Check.of(9), 0);
    }

    private static void anotherNumberOfLetters() {
        Check.sentence("16: IllegalStateException when the word has not as many letters");
        slides("1 1 1/2", 1, Check.of(1), Check.of(3, 2), 1, 2, 1, 1);
        refuses(STATE, Check.of(1), Check.of(3, 2), 0, 1, 2, 1);
        refuses(STATE, Check.of(1), Check.of(3, 2), 0, 1, 2, 1, 1, 1);
        refuses(STATE, Check.of(1), Check.of(3, 2), 1);
        refuses(STATE, Check.of(3, 2), Check.of(3, 2), 2, 1);
        refuses(STATE, Check.of(), Check.of(), 0, 1);
        refuses(STATE, Check.of(), Check.of(1), 0);
        refuses(STATE, Check.of(), Check.of(17), 0, 1, 1, 1, 1, 1, 1, 1, 1, 1, 1, 1, 1, 1, 1, 1,
                1);
    }

    private static void rowsOfColumnStrict() {
        Check.sentence("Terms: in each row no letter is less than one before it");
        slides("3 3 3", 0, Check.of(), Check.of(3), 3, 3, 3);
        slides("1 1 16", 2, Check.of(2), Check.of(5), 1, 1, 16);
        refuses(UNSUPPORTED, Check.of(), Check.of(2), 0, 2, 1);
        refuses(UNSUPPORTED, Check.of(), Check.of(3), 1, 1, 2, 1);
        refuses(UNSUPPORTED, Check.of(1), Check.of(3, 2), 0, 2, 1, 1, 2);
        refuses(UNSUPPORTED, Check.of(1), Check.of(3, 2), 2, 5, 5, 4, 3);
        refuses(UNSUPPORTED, Check.of(22), Check.of(24), 2, 16, 15);
        refuses(UNSUPPORTED, Check.of(1, 1, 1, 1, 1, 1, 1), Check.of(2, 2, 2, 2, 2, 2, 2, 2), 0,
                9, 8, 7, 6, 5, 4, 3, 2, 1);
    }

    private static void columnsOfColumnStrict() {
        Check.sentence("Terms: in each column each letter is greater than those above it");
        slides("1/2/3", 0, Check.of(), Check.of(1, 1, 1), 3, 2, 1);
        refuses(UNSUPPORTED, Check.of(), Check.of(1, 1), 0, 1, 1);
        refuses(UNSUPPORTED, Check.of(), Check.of(1, 1), 0, 1, 2);
        refuses(UNSUPPORTED, Check.of(1), Check.of(3, 2), 0, 1, 2, 2, 2);
        refuses(UNSUPPORTED, Check.of(1), Check.of(3, 2), 1, 1, 2, 3, 3);
        refuses(UNSUPPORTED, Check.of(), Check.of(1, 1, 1), 2, 2, 3, 1);
        refuses(UNSUPPORTED, Check.of(1, 1, 1, 1, 1, 1), Check.of(1, 1, 1, 1, 1, 1, 1, 1), 2, 4, 4);
    }

    /** Letters of boxes that share no row and no column may stand in any order. */
    private static void boxesApart() {
        Check.sentence("Terms: those boxes of an outer shape that an inner one has not");
        slides("1 1", 1, Check.of(1), Check.of(2, 1), 1, 1);
        slides("1 3", 1, Check.of(1), Check.of(2, 1), 1, 3);
        slides("1/3", 1, Check.of(1), Check.of(2, 1), 3, 1);
        slides("1 2 3", 3, Check.of(2, 1), Check.of(3, 2, 1), 1, 2, 3);
        slides("1/2/3", 3, Check.of(2, 1), Check.of(3, 2, 1), 3, 2, 1);
    }

    private static void theOneBelowOfTheSame() {
        Check.sentence("Terms: TO SLIDE: the one below, if they are the same");
        slides("3 3", 1, Check.of(1), Check.of(2, 1), 3, 3);
        slides("2 2/4", 1, Check.of(1), Check.of(2, 2), 2, 4, 2);
        slides("1 1 2/2", 1, Check.of(1), Check.of(3, 2), 1, 2, 1, 2);
        slides("2 2 2/3 3", 1, Check.of(1), Check.of(3, 3), 2, 3, 3, 2, 2);
    }

    private static void theOtherIsNotThere() {
        Check.sentence("Terms: TO SLIDE: or the other is not there");
        slides("5", 1, Check.of(1), Check.of(2), 5);
        slides("5", 1, Check.of(1), Check.of(1, 1), 5);
        slides("1 2 3", 1, Check.of(1), Check.of(4), 1, 2, 3);
        slides("1/2/3", 1, Check.of(1), Check.of(1, 1, 1, 1), 3, 2, 1);
        slides("4 9", 4, Check.of(2, 2), Check.of(4, 2), 4, 9);
        slides("4/9", 4, Check.of(2, 2), Check.of(2, 2, 1, 1), 9, 4);
    }

    private static void innerIsOuter() {
        Check.sentence("Terms: TO RECTIFY is to slide until the inner shape has no boxes");
        slides("", 1, Check.of(1), Check.of(1));
        slides("", 24, Check.of(5, 5, 5, 5, 1, 1, 1, 1), Check.of(5, 5, 5, 5, 1, 1, 1, 1));
        slides("", 24, Check.of(24), Check.of(24));
        for (int order = 0; order < 3; order++) {
            Bench b = Check.busy();
            b.cut(0, 0);
            Check.same("one slot as both", b.rectify(0, 0, 0, order), 7);
            Check.text("P", Check.tableau(b, false), "");
        }
    }

    private static void noInnerBoxes() {
        Check.sentence("16: how many slides; none, if inner has no boxes");
        slides("", 0, Check.of(), Check.of());
        slides("7", 0, Check.of(), Check.of(1), 7);
        slides("1 1 1/2", 0, Check.of(), Check.of(3, 1), 2, 1, 1, 1);
        slides("1 2 3 4 5 6 7 8 9 10 11 12 13 14 15 16", 0, Check.of(), Check.of(16),
                1, 2, 3, 4, 5, 6, 7, 8, 9, 10, 11, 12, 13, 14, 15, 16);
    }

    private static void mostBoxes() {
        Check.sentence("16: RECTIFIES; 24 boxes, 16 of them with letters");
        slides("1 2 3 4 5 6 7 8 9 10 11 12 13 14 15 16", 8, Check.of(8), Check.of(24),
                1, 2, 3, 4, 5, 6, 7, 8, 9, 10, 11, 12, 13, 14, 15, 16);
        slides("1 1/2 2/3 3/4 4/5 5/6 6/7 7/8 8", 8, Check.of(1, 1, 1, 1, 1, 1, 1, 1),
                Check.of(3, 3, 3, 3, 3, 3, 3, 3), 8, 8, 7, 7, 6, 6, 5, 5, 4, 4, 3, 3, 2, 2, 1, 1);
    }

    private static void benchAfterRectify() {
        Check.sentence("16: P is what comes of it, Q is away");
        Bench b = Check.benchWith(Check.of(1), Check.of(2, 1), Check.of(24));
        Check.spell(b, 0, 1, 2);
        Check.spell(b, 1, 5, 4, 3, 2, 1);
        b.insert(1, false);
        b.rectify(0, 1, 0, 1);
        Check.text("P alone", Check.tableau(b, false), "1 2");
        for (int r = 0; r < 6; r++) {
            Check.same("P below", b.entry(false, r + 1, 0), 0);
            Check.same("Q", b.entry(true, r, 0), 0);
        }
        Check.raises("recover", STATE, () -> b.recover(1));
        Check.text("the words", Check.word(b, 0) + ", " + Check.word(b, 1), "1 2, 5 4 3 2 1");
        Check.text("the slots", Check.slot(b, 0) + ", " + Check.slot(b, 1), "1, 2 1");
        b.draw(2, 1);
        b.rectify(0, 1, 0, 2);
        Check.text("P after a larger one", Check.tableau(b, false), "1 2");
        Check.same("P behind", b.entry(false, 0, 23), 0);
    }

    private static Bench inserted(int... letters) {
        Bench b = Check.busy();
        Check.spell(b, 0, letters);
        b.insert(0, false);
        return b;
    }

    private static void turnWithoutBoxes() {
        Check.sentence("17: TURNS P (one without boxes is standard), Q is away then");
        Bench b = inserted();
        Check.raisesNothing("turn", b::turn);
        Check.text("P", Check.tableau(b, false), "");
        Check.raises("recover, Q away", STATE, () -> b.recover(0));
        Bench first = new Bench();
        Check.raisesNothing("turn at first", first::turn);
        Check.text("all", Check.all(first), Check.all(new Bench()));
    }

    private static void turnOneBox() {
        Check.sentence("Terms: STANDARD, if it has the letters 1 to its number of boxes; one");
        Bench b = inserted(1);
        Check.raisesNothing("turn", b::turn);
        Check.text("P", Check.tableau(b, false), "1");
        Check.raises("recover, Q away", STATE, () -> b.recover(0));
        Check.refuses("turn of 2", STATE, () -> inserted(2), Bench::turn);
        Check.refuses("turn of 16", STATE, () -> inserted(16), Bench::turn);
    }

    private static void turnOneRowOrColumn() {
        Check.sentence("Terms: TO TURN: until no box is right or below of it");
        Bench row = inserted(1, 2, 3, 4);
        row.turn();
        Check.text("a row", Check.tableau(row, false), "1 2 3 4");
        Bench column = inserted(4, 3, 2, 1);
        column.turn();
        Check.text("a column", Check.tableau(column, false), "1/2/3/4");
        Bench hook = inserted(3, 1, 2);
        hook.turn();
        Check.text("a hook", Check.tableau(hook, false), "1 3/2");
        hook.turn();
        Check.text("and back", Check.tableau(hook, false), "1 2/3");
    }

    private static void turnMostBoxes() {
        Check.sentence("17: TURNS P; of 24 boxes, or of 16 rows");
        Bench b = Check.benchWith(Check.of(24), Check.of(3, 3, 3, 3, 3, 3, 3, 3));
        b.draw(0, 1);
        Check.raisesNothing("turn", b::turn);
        for (int c = 0; c <= 24; c++) {
            Check.same("P", b.entry(false, 0, c), c < 24 ? c + 1 : 0);
        }
        PlainBench plain = new PlainBench();
        plain.shape(1, Check.bytes(3, 3, 3, 3, 3, 3, 3, 3));
        b.draw(1, 1);
        plain.draw(1, 1);
        b.turn();
        plain.turn();
        Check.text("8 rows", Check.tableau(b, false), Check.tableau(plain, false));
        Bench high = inserted(16, 15, 14, 13, 12, 11, 10, 9, 8, 7, 6, 5, 4, 3, 2, 1);
        high.turn();
        Check.text("16 rows", Check.tableau(high, false),
                "1/2/3/4/5/6/7/8/9/10/11/12/13/14/15/16");
    }

    private static void turnNotStandard() {
        Check.sentence("17: IllegalStateException when P is not standard");
        int[][] words = {{1, 1}, {1, 3}, {2, 3}, {2, 1, 1}, {1, 2, 2, 4}, {1, 2, 2}, {2, 2},
            {1, 2, 3, 5}, {3, 3, 1}, {2, 3, 4, 5, 6, 7, 8, 9, 10, 11, 12, 13, 14, 15, 16, 16},
            {1, 2, 3, 4, 5, 6, 7, 8, 9, 10, 11, 12, 13, 14, 16}};
        for (int[] letters : words) {
            Check.refuses("turn", STATE, () -> inserted(letters), Bench::turn);
        }
        Check.refuses("turn of a rectified one", STATE, () -> {
            Bench b = Check.busy();
            b.shape(0, 1);
            b.shape(1, 2);
            Check.spell(b, 0, 2);
            b.rectify(0, 1, 0, 0);
            return b;
        }, Bench::turn);
    }

    private static void turnAfterEachWay() {
        Check.sentence("17: TURNS P, whatever it came of");
        Bench b = Check.benchWith(Check.of(1), Check.of(3, 1));
        Check.spell(b, 0, 3, 1, 2);
        b.insert(0, true);
        b.turn();
        Check.text("after insert by columns", Check.tableau(b, false), "1 2/3");
        b.turn();
        Check.text("after turn", Check.tableau(b, false), "1 3/2");
        b.rectify(0, 1, 0, 0);
        Check.text("rectified", Check.tableau(b, false), "1 2/3");
        b.turn();
        Check.text("after rectify", Check.tableau(b, false), "1 3/2");
    }

    private static void benchAfterTurn() {
        Check.sentence("17: Q is away then");
        Bench b = inserted(2, 1, 3);
        b.turn();
        Check.text("Q", Check.tableau(b, true), "");
        Check.raises("recover", STATE, () -> b.recover(1));
        Check.text("the words", Check.word(b, 0) + ", " + Check.word(b, 1), "2 1 3, 2 2 1 5 3");
        Check.text("a slot", Check.slot(b, 0), "4 2 1");
        b.insert(0, false);
        Check.text("Q is there again", Check.tableau(b, true), "1 3/2");
    }
}
