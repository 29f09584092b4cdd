/** Promises 16 and 17: rectify, turn. Their boundary cases: SlidingEdgesTest. */
final class SlidingTest {
    public static void main(String[] args) {
        for (int order = 0; order < 3; order++) {
            slides(order);
        }
        benchAfterwards();
        turns();
        for (long seed = 0; seed < 100; seed++) {
            turnsTwice(seed);
        }
        Check.end();
    }

    private static void slides(int order) {
        Bench b = Check.benchWith(Check.of(1), Check.of(2, 1), Check.of(2, 1),
                Check.of(4, 3, 2));
        Check.spell(b, 0, 1, 2);
        Check.same("slides", b.rectify(0, 1, 0, order), 1);
        Check.text("P", Check.tableau(b, false), "1 2");
        Check.spell(b, 0, 2, 1);
        b.rectify(0, 1, 0, order);
        Check.text("P", Check.tableau(b, false), "1/2");
        Check.spell(b, 1, 2, 4, 1, 3, 2, 2);
        Check.same("slides", b.rectify(2, 3, 1, order), 3);
        String p = Check.tableau(b, false);
        b.insert(1, false);
        Check.text("what its reading gives", p, Check.tableau(b, false));
        Check.text("the slots stay", Check.slot(b, 2) + ", " + Check.slot(b, 3), "2 1, 4 3 2");
    }

    private static void benchAfterwards() {
        Bench b = Check.benchWith(Check.of(1), Check.of(2, 1));
        Check.spell(b, 0, 1, 2);
        b.insert(0, false);
        Check.same("Q is there", b.entry(true, 0, 0), 1);
        b.rectify(0, 1, 0, 0);
        Check.same("Q is away", b.entry(true, 0, 0), 0);
        Check.text("the word stays", Check.word(b, 0), "1 2");
        Check.raises("Q is away", IllegalStateException.class, () -> b.recover(0));
    }

    private static void turns() {
        Bench b = new Bench();
        Check.spell(b, 0, 3, 1, 2);
        b.insert(0, false);
        b.turn();
        Check.text("P", Check.tableau(b, false), "1 3/2");
        Check.text("Q is away", Check.tableau(b, true), "");
        Check.raises("Q is away", IllegalStateException.class, () -> b.recover(0));
        Check.spell(b, 0, 4, 2, 5, 1, 3);
        b.insert(0, false);
        Check.text("P", Check.tableau(b, false), "1 3/2 5/4");
        b.turn();
        Check.text("P", Check.tableau(b, false), "1 2/3 4/5");
    }

    /** To turn twice gives the first again; to turn P is to insert the word upside down, back. */
    private static void turnsTwice(long seed) {
        Bench b = Check.benchWith(Check.of(6, 4, 4, 3, 2, 2, 2, 1), Check.of(5, 4, 3, 2, 2));
        b.draw(0, seed);
        String first = Check.tableau(b, false);
        b.turn();
        b.turn();
        Check.text("turned twice", Check.tableau(b, false), first);
        b.draw(1, seed);
        b.read(0);
        b.turn();
        String turned = Check.tableau(b, false);
        for (int i = 15; i >= 0; i--) {
            b.letter(1, 17 - b.at(0, i));
        }
        b.insert(1, false);
        Check.text("the word upside down", Check.tableau(b, false), turned);
    }
}
