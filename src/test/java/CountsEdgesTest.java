/** The boundary cases that promises 19 to 22 and their terms name, sentence by sentence. */
final class CountsEdgesTest {
    public static void main(String[] args) {
        standardWithoutBoxes();
        standardOfLines();
        standardOfMost();
        fillingsAnotherNumber();
        fillingsOfNone();
        fillingsOfMost();
        fillingsOfEqualLetters();
        coefficientNotAllBoxes();
        coefficientAnotherNumber();
        coefficientOfNone();
        coefficientAtEveryPlace();
        coefficientColumnStrict();
        coefficientOfMost();
        characterOfNone();
        characterAnotherNumber();
        characterMostBoxes();
        characterTooManyBoxes();
        characterHooks();
        characterNoSquare();
        characterHangsTogether();
        countsChangeNothing();
        Check.end();
    }

    private static long standard(int... rows) {
        return Check.benchWith(rows).standard(0);
    }

    private static void standardWithoutBoxes() {
        Check.sentence("19: 1 of that without boxes");
        for (int slot = 0; slot < 4; slot++) {
            Check.same("at first", new Bench().standard(slot), 1);
            Bench b = Check.busy();
            b.shape(slot, 0);
            Check.same("without boxes", b.standard(slot), 1);
        }
    }

    private static void standardOfLines() {
        Check.sentence("19: The number of standard tableaux of a shape; of one row or column");
        Check.same("1", standard(1), 1);
        Check.same("24", standard(24), 1);
        Check.same("1 1 1 1 1 1 1 1", standard(1, 1, 1, 1, 1, 1, 1, 1), 1);
        Check.same("2 1", standard(2, 1), 2);
        Check.same("23 1", standard(23, 1), 23);
        Check.same("17 1 1 1 1 1 1 1", standard(17, 1, 1, 1, 1, 1, 1, 1), 245157);
    }

    private static void standardOfMost() {
        Check.sentence("Terms: All counts fit into a long");
        Check.same("12 12", standard(12, 12), 208012);
        Check.same("8 8 8", standard(8, 8, 8), 23371634);
        Check.same("3 3 3 3 3 3 3 3", standard(3, 3, 3, 3, 3, 3, 3, 3), 23371634);
        Check.same("8 5 4 3 2 1 1, the most of all", standard(8, 5, 4, 3, 2, 1, 1), 117487079424L);
    }

    private static long fillings(int[] rows, int... word) {
        Bench b = Check.benchWith(rows);
        Check.spell(b, 1, word);
        return b.fillings(0, 1);
    }

    private static void fillingsAnotherNumber() {
        Check.sentence("20: 0 when the word has not as many letters as the shape boxes");
        int[] sixteen = {1, 2, 3, 4, 5, 6, 7, 8, 9, 10, 11, 12, 13, 14, 15, 16};
        Check.same("3 boxes, 3 letters", fillings(Check.of(2, 1), 1, 2, 3), 2);
        Check.same("3 boxes, 2 letters", fillings(Check.of(2, 1), 1, 2), 0);
        Check.same("3 boxes, 4 letters", fillings(Check.of(2, 1), 1, 2, 3, 4), 0);
        Check.same("3 boxes, no letters", fillings(Check.of(2, 1)), 0);
        Check.same("no boxes, 1 letter", fillings(Check.of(), 1), 0);
        Check.same("17 boxes, 16 letters", fillings(Check.of(17), sixteen), 0);
        Check.same("24 boxes, 16 letters", fillings(Check.of(12, 12), sixteen), 0);
        Check.same("24 boxes, no letters", fillings(Check.of(24)), 0);
        Check.same("15 boxes, 16 letters", fillings(Check.of(15), sixteen), 0);
    }

    private static void fillingsOfNone() {
        Check.sentence("20: The number of tableaux that have as many of each letter; none");
        Check.same("no boxes, no letters", fillings(Check.of()), 1);
    }

    private static void fillingsOfMost() {
        Check.sentence("20: The number of tableaux that have as many of each letter; 16 letters");
        int[] sixteen = {16, 1, 15, 2, 14, 3, 13, 4, 12, 5, 11, 6, 10, 7, 9, 8};
        Check.same("16", fillings(Check.of(16), sixteen), 1);
        Check.same("8 8", fillings(Check.of(8, 8), sixteen), 1430);
        Check.same("2 2 2 2 2 2 2 2", fillings(Check.of(2, 2, 2, 2, 2, 2, 2, 2), sixteen), 1430);
        Check.same("4 4 4 4", fillings(Check.of(4, 4, 4, 4), sixteen), 24024);
        Check.same("6 4 2 2 1 1", fillings(Check.of(6, 4, 2, 2, 1, 1), sixteen), 928746);
        Check.same("9 1 1 1 1 1 1 1", fillings(Check.of(9, 1, 1, 1, 1, 1, 1, 1), sixteen), 6435);
    }

    private static void fillingsOfEqualLetters() {
        Check.sentence("Terms: COLUMN-STRICT; 20: as many of each letter as the word");
        Check.same("3 with 5 5 5", fillings(Check.of(3), 5, 5, 5), 1);
        Check.same("2 1 with 5 5 5", fillings(Check.of(2, 1), 5, 5, 5), 0);
        Check.same("1 1 with 7 7", fillings(Check.of(1, 1), 7, 7), 0);
        Check.same("1 1 with 7 8", fillings(Check.of(1, 1), 8, 7), 1);
        Check.same("2 1 with 5 16 16", fillings(Check.of(2, 1), 16, 5, 16), 1);
        Check.same("2 1 with 5 5 16", fillings(Check.of(2, 1), 5, 16, 5), 1);
        Check.same("2 2 with 1 1 2 2", fillings(Check.of(2, 2), 2, 1, 2, 1), 1);
        Check.same("3 1 with 1 1 2 2", fillings(Check.of(3, 1), 2, 1, 2, 1), 1);
        Check.same("3 1 with 1 2 2 2", fillings(Check.of(3, 1), 2, 2, 2, 1), 1);
        Check.same("2 2 with 1 2 2 2", fillings(Check.of(2, 2), 2, 2, 2, 1), 0);
        Check.same("16 with 16 times 16", fillings(Check.of(16), 16, 16, 16, 16, 16, 16, 16, 16,
                16, 16, 16, 16, 16, 16, 16, 16), 1);
        Check.same("15 1 with 16 times 16", fillings(Check.of(15, 1), 16, 16, 16, 16, 16, 16, 16,
                16, 16, 16, 16, 16, 16, 16, 16, 16), 0);
        Check.same("8 8 with 1 and 16", fillings(Check.of(8, 8), 1, 16, 1, 16, 1, 16, 1, 16, 1, 16,
                1, 16, 1, 16, 1, 16), 1);
    }

    private static long coefficient(int[] a, int[] b, int[] c) {
        return Check.benchWith(a, b, c).coefficient(0, 1, 2);
    }

    private static void coefficientNotAllBoxes() {
        Check.sentence("Terms: THE PRODUCT COEFFICIENT is 0, if c has not all boxes of a");
        Check.same("3, 1, 2 2", coefficient(Check.of(3), Check.of(1), Check.of(2, 2)), 0);
        Check.same("1, 3, 2 2", coefficient(Check.of(1), Check.of(3), Check.of(2, 2)), 0);
        Check.same("1 1, 2, 4", coefficient(Check.of(1, 1), Check.of(2), Check.of(4)), 0);
        Check.same("1^8, 1, 2 2 1^5", coefficient(Check.of(1, 1, 1, 1, 1, 1, 1, 1), Check.of(1),
                Check.of(2, 2, 1, 1, 1, 1, 1)), 0);
        Check.same("24, none, 23 1", coefficient(Check.of(24), Check.of(), Check.of(23, 1)), 0);
    }

    private static void coefficientAnotherNumber() {
        Check.sentence("Terms: or its number of boxes is not that of a and b together");
        Check.same("2, 1, 2 1", coefficient(Check.of(2), Check.of(1), Check.of(2, 1)), 1);
        Check.same("2, 1, 2 2", coefficient(Check.of(2), Check.of(1), Check.of(2, 2)), 0);
        Check.same("2, 1, 2", coefficient(Check.of(2), Check.of(1), Check.of(2)), 0);
        Check.same("2, none, 3", coefficient(Check.of(2), Check.of(), Check.of(3)), 0);
        Check.same("none, 3, 2", coefficient(Check.of(), Check.of(3), Check.of(2)), 0);
        Check.same("24, 24, 24", coefficient(Check.of(24), Check.of(24), Check.of(24)), 0);
        Check.same("24, 1, 24", coefficient(Check.of(24), Check.of(1), Check.of(24)), 0);
        Check.same("none, none, 1", coefficient(Check.of(), Check.of(), Check.of(1)), 0);
    }

    private static void coefficientOfNone() {
        Check.sentence("21: THE PRODUCT COEFFICIENT of shapes without boxes");
        int[] great = {3, 3, 3, 3, 3, 3, 3, 3};
        Check.same("none, none, none", coefficient(Check.of(), Check.of(), Check.of()), 1);
        Check.same("none, b, b", coefficient(Check.of(), great, great), 1);
        Check.same("a, none, a", coefficient(great, Check.of(), great), 1);
        Check.same("none, b, c", coefficient(Check.of(), Check.of(24), Check.of(23, 1)), 0);
        Bench b = Check.busy();
        b.shape(3, 0);
        Check.same("one slot twice", b.coefficient(3, 0, 0), 1);
        Check.same("one slot twice", b.coefficient(0, 3, 0), 1);
        Check.same("one slot thrice", b.coefficient(3, 3, 3), 1);
    }

    private static void coefficientAtEveryPlace() {
        Check.sentence("Terms: has at every place, up to there, not more letters i + 1 than i");
        Check.same("1, 1, 1 1", coefficient(Check.of(1), Check.of(1), Check.of(1, 1)), 1);
        Check.same("1, 1, 2", coefficient(Check.of(1), Check.of(1), Check.of(2)), 1);
        // The only filling of two boxes in a row with 1 and 2 begins, from its end, with 2.
        Check.same("1, 1 1, 3", coefficient(Check.of(1), Check.of(1, 1), Check.of(3)), 0);
        Check.same("1, 1 1, 2 1", coefficient(Check.of(1), Check.of(1, 1), Check.of(2, 1)), 1);
        Check.same("2 1, 2 1, 3 2 1", coefficient(Check.of(2, 1), Check.of(2, 1),
                Check.of(3, 2, 1)), 2);
        Check.same("2 1, 1 1 1, 3 2 1", coefficient(Check.of(2, 1), Check.of(1, 1, 1),
                Check.of(3, 2, 1)), 1);
        Check.same("2 1, 3, 3 2 1", coefficient(Check.of(2, 1), Check.of(3), Check.of(3, 2, 1)),
                1);
        Check.same("2 1, 2 1, 4 2", coefficient(Check.of(2, 1), Check.of(2, 1), Check.of(4, 2)),
                1);
    }

    private static void coefficientColumnStrict() {
        Check.sentence("Terms: the number of column-strict fillings");
        Check.same("2, 2, 2 2", coefficient(Check.of(2), Check.of(2), Check.of(2, 2)), 1);
        Check.same("1, 2, 1 1 1", coefficient(Check.of(1), Check.of(2), Check.of(1, 1, 1)), 0);
        Check.same("1, 1 1, 1 1 1", coefficient(Check.of(1), Check.of(1, 1), Check.of(1, 1, 1)),
                1);
        Check.same("2, 2, 4", coefficient(Check.of(2), Check.of(2), Check.of(4)), 1);
        Check.same("1 1, 1 1, 2 2", coefficient(Check.of(1, 1), Check.of(1, 1), Check.of(2, 2)),
                1);
        Check.same("1 1, 2, 2 2", coefficient(Check.of(1, 1), Check.of(2), Check.of(2, 2)), 0);
    }

    private static void coefficientOfMost() {
        Check.sentence("21: THE PRODUCT COEFFICIENT; 24 boxes, 8 rows");
        Check.same("12, 12, 12 12", coefficient(Check.of(12), Check.of(12), Check.of(12, 12)), 1);
        Check.same("12, 12, 24", coefficient(Check.of(12), Check.of(12), Check.of(24)), 1);
        int[] column = {1, 1, 1, 1, 1, 1, 1, 1};
        int[] two = {2, 2, 2, 2, 2, 2, 2, 2};
        int[] three = {3, 3, 3, 3, 3, 3, 3, 3};
        Check.same("1^8, 2^8, 3^8", coefficient(column, two, three), 1);
        Check.same("2^8, 1^8, 3^8", coefficient(two, column, three), 1);
        int[] stairs = {4, 3, 2, 1};
        int[] more = {5, 3, 2, 1};
        int[] great = {6, 5, 4, 3, 2, 1};
        Check.same("10, 11 and 21 boxes", coefficient(stairs, more, great), 24);
        Check.same("11, 10 and 21 boxes", coefficient(more, stairs, great), 24);
    }

    private static long character(int[] rows, int[] type) {
        return Check.benchWith(rows, type).character(0, 1);
    }

    private static void characterOfNone() {
        Check.sentence("Terms: THE CHARACTER: 1, if both have none");
        Check.same("none at none", character(Check.of(), Check.of()), 1);
        Check.same("1 at 1", character(Check.of(1), Check.of(1)), 1);
    }

    private static void characterAnotherNumber() {
        Check.sentence("22: IllegalStateException when they have not as many boxes");
        int[][] pairs = {{1, 0}, {0, 1}, {3, 2}, {2, 3}, {14, 13}, {13, 14}, {14, 15}, {15, 14},
            {24, 23}, {24, 0}};
        for (int[] pair : pairs) {
            Check.refuses(pair[0] + " at " + pair[1], IllegalStateException.class, () -> {
                Bench b = Check.busy();
                b.shape(0, pair[0]);
                b.shape(3, pair[1]);
                return b;
            }, b -> b.character(0, 3));
        }
    }

    private static void characterMostBoxes() {
        Check.sentence("22: UnsupportedOperationException when more than 14; 14 are not");
        int[] fourteen = {14};
        int[] hook = {7, 1, 1, 1, 1, 1, 1, 1};
        Check.same("14 at 14", character(fourteen, fourteen), 1);
        Check.same("14 at a hook", character(fourteen, hook), 1);
        Check.same("a hook at 14", character(hook, fourteen), -1);
        Check.same("7 7 at 14", character(Check.of(7, 7), fourteen), 0);
        Check.same("8 rows at 14", character(Check.of(6, 2, 1, 1, 1, 1, 1, 1), fourteen), 0);
        int[] twos = {2, 2, 2, 2, 2, 2, 2};
        Check.same("7 7 at twos", character(Check.of(7, 7), twos), -35);
        Check.same("7 twos at twos", character(twos, twos), 35);
        Check.same("13 1 at twos", character(Check.of(13, 1), twos), -1);
        Bench b = Check.benchWith(Check.of(5, 4, 3, 2));
        Check.raisesNothing("one slot as both", () -> b.character(0, 0));
    }

    private static void characterTooManyBoxes() {
        Check.sentence("22: UnsupportedOperationException when these are more than 14");
        int[][] shapes = {{15}, {14, 1}, {16}, {24}, {3, 3, 3, 3, 3, 3, 3, 3},
            {8, 1, 1, 1, 1, 1, 1, 1}};
        for (int[] rows : shapes) {
            Check.refuses("a row 0 of " + rows[0], UnsupportedOperationException.class, () -> {
                Bench b = Check.busy();
                b.shape(1, Check.bytes(rows));
                return b;
            }, b -> b.character(1, 1));
        }
        Check.refuses("two shapes of 15", UnsupportedOperationException.class, () -> {
            Bench b = Check.busy();
            b.shape(1, Check.bytes(14, 1));
            b.shape(2, 15);
            return b;
        }, b -> b.character(1, 2));
    }

    private static void characterHooks() {
        Check.sentence("Terms: (-1) ^ (the number of rows that the hook touches, less 1)");
        Check.same("2 at 2", character(Check.of(2), Check.of(2)), 1);
        Check.same("1 1 at 2", character(Check.of(1, 1), Check.of(2)), -1);
        Check.same("1 1 1 at 3", character(Check.of(1, 1, 1), Check.of(3)), 1);
        Check.same("2 1 at 3", character(Check.of(2, 1), Check.of(3)), -1);
        Check.same("2 1 at 2 1", character(Check.of(2, 1), Check.of(2, 1)), 0);
        Check.same("2 1 at 1 1 1", character(Check.of(2, 1), Check.of(1, 1, 1)), 2);
        Check.same("1^8 at 8", character(Check.of(1, 1, 1, 1, 1, 1, 1, 1), Check.of(8)), -1);
        Check.same("1^8 at 7 1", character(Check.of(1, 1, 1, 1, 1, 1, 1, 1), Check.of(7, 1)), 1);
        Check.same("1^8 at 1^8", character(Check.of(1, 1, 1, 1, 1, 1, 1, 1),
                Check.of(1, 1, 1, 1, 1, 1, 1, 1)), 1);
    }

    private static void characterNoSquare() {
        Check.sentence("Terms: of which no four make a square of two by two");
        Check.same("2 2 at 4", character(Check.of(2, 2), Check.of(4)), 0);
        Check.same("3 3 at 6", character(Check.of(3, 3), Check.of(6)), 0);
        Check.same("3 2 at 5", character(Check.of(3, 2), Check.of(5)), 0);
        Check.same("2 2 at 3 1", character(Check.of(2, 2), Check.of(3, 1)), -1);
        Check.same("2 2 at 2 2", character(Check.of(2, 2), Check.of(2, 2)), 2);
    }

    private static void characterHangsTogether() {
        Check.sentence("Terms: which hang together side by side");
        // 2 1 less its two corners is a shape, but these share no side.
        Check.same("2 1 at 2 1", character(Check.of(2, 1), Check.of(2, 1)), 0);
        Check.same("3 1 at 2 2", character(Check.of(3, 1), Check.of(2, 2)), -1);
        Check.same("3 2 1 at 3 3", character(Check.of(3, 2, 1), Check.of(3, 3)), -2);
        Check.same("3 2 1 at 2 2 2", character(Check.of(3, 2, 1), Check.of(2, 2, 2)), 0);
        Check.same("3 2 1 at 5 1", character(Check.of(3, 2, 1), Check.of(5, 1)), 1);
        Check.same("3 2 1 at 6", character(Check.of(3, 2, 1), Check.of(6)), 0);
    }

    private static void countsChangeNothing() {
        Check.sentence("5, 19 to 22: counts are answers alone");
        Check.changesNothing("rank", Check::busy, b -> b.rank(0));
        Check.changesNothing("standard", Check::busy, b -> b.standard(0));
        Check.changesNothing("fillings, 5 boxes", Check::busy, b -> b.fillings(2, 1));
        Check.changesNothing("fillings, not as many", Check::busy, b -> b.fillings(0, 0));
        Check.changesNothing("coefficient, 0", Check::busy, b -> b.coefficient(1, 2, 3));
        Check.changesNothing("coefficient of one slot", () -> {
            Bench b = Check.busy();
            b.shape(3, 0);
            return b;
        }, b -> b.coefficient(3, 0, 0));
        Check.changesNothing("character", Check::busy, b -> b.character(0, 0));
    }
}
