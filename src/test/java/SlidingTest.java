/** Promises 16 and 17: rectify, turn. */
final class SlidingTest {
    public static void main(String[] args) {
        slides();
        withoutLetters();
        benchAfterwards();
        refusedFillings();
        whichException();
        turns();
        refusedTurns();
        turnsTwice();
        Check.end();
    }

    private static void slides() {
        for (int order = 0; order < 3; order++) {
            TableauBench b = Check.benchWith(Check.of(1), Check.of(2, 1), Check.of(2, 1),
                    Check.of(4, 3, 2));
            Check.spell(b, 0, 1, 2);
            Check.same("slides", b.rectify(0, 1, 0, order), 1);
            Check.text("P", Check.tableau(b, false), "1 2");
            Check.spell(b, 0, 2, 1);
            b.rectify(0, 1, 0, order);
            Check.text("P", Check.tableau(b, false), "1/2");
            Check.spell(b, 0, 3, 3);
            b.rectify(0, 1, 0, order);
            Check.text("the one below of two equal ones", Check.tableau(b, false), "3 3");
            Check.spell(b, 1, 2, 4, 1, 3, 2, 2);
            Check.same("slides", b.rectify(2, 3, 1, order), 3);
            String p = Check.tableau(b, false);
            b.insert(1, false);
            Check.text("what its reading gives", p, Check.tableau(b, false));
            Check.text("the slots stay", Check.slot(b, 2) + ", " + Check.slot(b, 3),
                    "2 1, 4 3 2");
        }
    }

    private static void withoutLetters() {
        for (int order = 0; order < 3; order++) {
            TableauBench b = Check.benchWith(Check.of(5, 5, 5, 5, 1, 1, 1, 1), Check.of(3, 1));
            Check.spell(b, 1, 1);
            b.insert(1, false);
            Check.same("inner and outer the same", b.rectify(0, 0, 0, order), 24);
            Check.text("P", Check.tableau(b, false), "");
            Check.raises("Q is away", IllegalStateException.class, () -> b.recover(0));
            Check.same("no boxes at all", b.rectify(2, 2, 0, order), 0);
            Check.spell(b, 0, 2, 1, 1, 1);
            Check.same("no inner boxes", b.rectify(2, 1, 0, order), 0);
            Check.text("P", Check.tableau(b, false), "1 1 1/2");
        }
    }

    private static void benchAfterwards() {
        TableauBench b = Check.benchWith(Check.of(1), Check.of(2, 1));
        Check.spell(b, 0, 1, 2);
        b.insert(0, false);
        Check.same("Q is there", b.entry(true, 0, 0), 1);
        b.rectify(0, 1, 0, 0);
        Check.same("Q is away", b.entry(true, 0, 0), 0);
        Check.text("the word stays", Check.word(b, 0), "1 2");
        Check.raises("Q is away", IllegalStateException.class, () -> b.recover(0));
    }

    private static void refusedFillings() {
        TableauBench b = Check.benchWith(Check.of(1), Check.of(3, 2), Check.of(2, 2));
        Check.spell(b, 1, 4, 4);
        b.insert(1, false);
        Check.spell(b, 0, 2, 1, 1, 2);
        refused(b, "a row falls", UnsupportedOperationException.class, 0, 1, 0, 0);
        Check.spell(b, 0, 1, 2, 2, 2);
        refused(b, "a column stays", UnsupportedOperationException.class, 0, 1, 0, 0);
        Check.spell(b, 0, 1, 2, 3, 3);
        refused(b, "a column falls", UnsupportedOperationException.class, 0, 1, 0, 1);
        Check.spell(b, 0, 5, 5, 4, 3);
        refused(b, "the upper row falls", UnsupportedOperationException.class, 0, 1, 0, 2);
        Check.spell(b, 0, 1, 2, 1);
        refused(b, "a letter too few", IllegalStateException.class, 0, 1, 0, 0);
        Check.spell(b, 0, 1, 2, 1, 1, 1);
        refused(b, "a letter too many", IllegalStateException.class, 0, 1, 0, 0);
        Check.spell(b, 0, 1);
        refused(b, "not inside", IllegalArgumentException.class, 1, 2, 0, 0);
        Check.spell(b, 0, 1, 2, 1, 1);
        Check.same("column-strict", b.rectify(0, 1, 0, 0), 1);
        Check.text("P", Check.tableau(b, false), "1 1 1/2");
    }

    private static void whichException() {
        TableauBench b = Check.benchWith(Check.of(3), Check.of(2, 2), Check.of(1));
        Check.spell(b, 0, 1, 1, 9);
        for (int order : new int[] {-1, 3, Integer.MIN_VALUE, Integer.MAX_VALUE}) {
            refused(b, "order", IllegalArgumentException.class, 2, 1, 0, order);
            refused(b, "order, letters", IllegalArgumentException.class, 3, 1, 0, order);
            refused(b, "slot, order", IndexOutOfBoundsException.class, 4, 1, 0, order);
            refused(b, "word, order", IndexOutOfBoundsException.class, 0, 1, 2, order);
        }
        refused(b, "not inside, letters", IllegalArgumentException.class, 0, 1, 0, 0);
        refused(b, "letters", IllegalStateException.class, 3, 1, 0, 0);
        refused(b, "not column-strict", UnsupportedOperationException.class, 2, 1, 0, 0);
    }

    private static void refused(TableauBench b, String call,
            Class<? extends RuntimeException> due, int inner, int outer, int word, int order) {
        String before = Check.all(b);
        Check.raises(call, due, () -> b.rectify(inner, outer, word, order));
        Check.text(call + ": nothing changed", Check.all(b), before);
    }

    private static void turns() {
        TableauBench b = new TableauBench();
        Check.spell(b, 0, 3, 1, 2);
        b.insert(0, false);
        b.turn();
        Check.text("P", Check.tableau(b, false), "1 3/2");
        Check.text("Q is away", Check.tableau(b, true), "");
        Check.raises("Q is away", IllegalStateException.class, () -> b.recover(0));
        Check.spell(b, 0, 4, 2, 5, 1, 3);
        b.insert(0, false);
        Check.text("P", Check.tableau(b, false), "1 3/2 5/4");
        b.turn();
        Check.text("P", Check.tableau(b, false), "1 2/3 4/5");
        b.insert(1, false);
        b.turn();
        Check.text("without boxes", Check.tableau(b, false), "");
        Check.raises("Q is away", IllegalStateException.class, () -> b.recover(0));
        new TableauBench().turn();
    }

    private static void refusedTurns() {
        int[][] words = {{1, 1}, {2}, {1, 3}, {16}, {2, 1, 1}, {1, 2, 2, 4}};
        for (int[] letters : words) {
            TableauBench b = new TableauBench();
            Check.spell(b, 0, letters);
            b.insert(0, false);
            String before = Check.all(b);
            Check.raises("not standard", IllegalStateException.class, b::turn);
            Check.text("nothing changed", Check.all(b), before);
            b.recover(1);
            Check.text("Q is there", Check.word(b, 1), Check.word(b, 0));
        }
    }

    /** To turn twice gives the first again; to turn P is to insert the word upside down, back. */
    private static void turnsTwice() {
        TableauBench b = Check.benchWith(Check.of(6, 4, 4, 3, 2, 2, 2, 1), Check.of(5, 4, 3, 2, 2));
        for (long seed = 0; seed < 100; seed++) {
            b.draw(0, seed);
            String first = Check.tableau(b, false);
            b.turn();
            b.turn();
            Check.text("turned twice", Check.tableau(b, false), first);
            b.draw(1, seed);
            b.read(0);
            b.turn();
            String turned = Check.tableau(b, false);
            b.cut(1, 0);
            for (int i = 15; i >= 0; i--) {
                b.letter(1, 17 - b.at(0, i));
            }
            b.insert(1, false);
            Check.text("the word upside down", Check.tableau(b, false), turned);
        }
    }
}
