import java.util.NoSuchElementException;

/** The boundary cases that promises 2 to 6 name, sentence by sentence. */
final class ShapesEdgesTest {
    private static final int[] FAR = {Integer.MIN_VALUE, Integer.MAX_VALUE};

    public static void main(String[] args) {
        lowestByteIsRowZero();
        notLongerThanTheOneBefore();
        noneBehindTheLast();
        bytesAreNotNegative();
        mostBoxes();
        noBoxes();
        rowsThatAreNone();
        rowsOfAll();
        conjugateHasMostRows();
        conjugateWithoutBoxes();
        rankFirstAndLast();
        rankOfAnyNumberOfRows();
        unrankLeastAndMostBoxes();
        unrankNotSoManyBoxes();
        unrankLastRank();
        unrankNoSuchRank();
        unrankMostRows();
        unrankTooManyRows();
        unrankWithoutBoxes();
        Check.end();
    }

    private static void becomes(String call, long w, String due) {
        Bench b = Check.busy();
        Check.isTrue(call, b.shape(0, w));
        Check.text(call, Check.slot(b, 0), due);
    }

    private static void noShape(String call, long w) {
        for (int slot = 0; slot < 4; slot++) {
            int it = slot;
            Check.saysNo(call + " in slot " + slot, Check::busy, b -> b.shape(it, w));
        }
    }

    private static void lowestByteIsRowZero() {
        Check.sentence("2: the lengths that the 8 bytes of w are, the lowest byte row 0");
        becomes("8 different rows are too many boxes, 6 not", 0x010203040506L, "6 5 4 3 2 1");
        becomes("the highest byte is row 7", 0x0101020203040506L, "6 5 4 3 2 2 1 1");
        becomes("row 7 alone differs", 0x0001010101010101L, "1 1 1 1 1 1 1");
        becomes("row 7 is there", 0x0101010101010101L, "1 1 1 1 1 1 1 1");
    }

    private static void notLongerThanTheOneBefore() {
        Check.sentence("Terms: each not more than the one before; 2: False when it is no shape");
        becomes("the same as the one before", Check.bytes(3, 3, 2, 2, 2), "3 3 2 2 2");
        noShape("row 1 longer", Check.bytes(2, 3));
        noShape("row 2 longer", Check.bytes(5, 2, 3));
        noShape("row 4 longer", Check.bytes(3, 2, 1, 1, 2, 1));
        noShape("row 7 longer", Check.bytes(1, 1, 1, 1, 1, 1, 1, 2));
        noShape("row 0 shorter than all", Check.bytes(1, 2, 2, 2, 2, 2, 2, 2));
        noShape("no row 0", Check.bytes(0, 1));
        noShape("row 7 alone", Check.bytes(0, 0, 0, 0, 0, 0, 0, 1));
    }

    private static void noneBehindTheLast() {
        Check.sentence("Terms: behind the last row that is not 0 all are");
        noShape("a row behind one without boxes", Check.bytes(2, 0, 1));
        noShape("row 7 behind row 6 without boxes", Check.bytes(2, 1, 1, 1, 1, 1, 0, 1));
    }

    private static void bytesAreNotNegative() {
        Check.sentence("2: a byte is 0 .. 255");
        noShape("127", 127);
        noShape("128", 128);
        noShape("255 is not -1", 255);
        noShape("232 is not -24", 232);
        noShape("row 1 of 255 is no less than row 0", Check.bytes(24, 255));
        noShape("row 7 of 255 is no less than row 6", Check.bytes(1, 1, 1, 1, 1, 1, 1, 255));
        noShape("all 255", -1);
        noShape("the highest byte 128", Long.MIN_VALUE);
        noShape("the highest byte 127", Long.MAX_VALUE);
    }

    private static void mostBoxes() {
        Check.sentence("2: False when it has more than 24 boxes");
        becomes("24 in a row", 24, "24");
        noShape("25 in a row", 25);
        becomes("24 in two rows", Check.bytes(23, 1), "23 1");
        noShape("25 in two rows", Check.bytes(24, 1));
        noShape("25 in two rows", Check.bytes(13, 12));
        becomes("24 in 8 rows", Check.bytes(3, 3, 3, 3, 3, 3, 3, 3), "3 3 3 3 3 3 3 3");
        noShape("25 in 8 rows", Check.bytes(4, 3, 3, 3, 3, 3, 3, 3));
        becomes("a hook of 24", Check.bytes(17, 1, 1, 1, 1, 1, 1, 1), "17 1 1 1 1 1 1 1");
        noShape("a hook of 25", Check.bytes(18, 1, 1, 1, 1, 1, 1, 1));
        noShape("256 in 8 rows", Check.bytes(32, 32, 32, 32, 32, 32, 32, 32));
        noShape("280 in two rows", Check.bytes(255, 25));
    }

    private static void noBoxes() {
        Check.sentence("2: The slot's shape becomes that; Terms: a SHAPE without boxes");
        becomes("no boxes", 0, "");
        becomes("one box", 1, "1");
    }

    private static void rowsThatAreNone() {
        Check.sentence("3: 0, if i is greater than 7 or below 0");
        Bench b = Check.benchWith(Check.of(3, 3, 3, 3, 3, 3, 3, 3));
        Check.same("row 0", b.row(0, 0), 3);
        Check.same("row 7", b.row(0, 7), 3);
        // 1 << 29 and -(1 << 29) rows of 8 bits are none in an int, nor are 8 rows in a long.
        for (int i : new int[] {-1, 8, 9, -8, 16, 256, 1 << 29, -(1 << 29), FAR[0], FAR[1]}) {
            Check.same("row " + i, b.row(0, i), 0);
        }
    }

    private static void rowsOfAll() {
        Check.sentence("3: The length of row i of a slot's shape");
        Bench b = Check.benchWith(Check.of(2, 1), Check.of(), Check.of(24));
        Check.same("row 1, the last one", b.row(0, 1), 1);
        Check.same("row 2, behind the last one", b.row(0, 2), 0);
        Check.same("row 0 without boxes", b.row(1, 0), 0);
        Check.same("row 0 of 24", b.row(2, 0), 24);
    }

    private static void conjugates(String due, int... rows) {
        Bench b = Check.benchWith(rows);
        String before = Check.slot(b, 0);
        Check.isTrue("conjugate of " + before, b.conjugate(0));
        Check.text("conjugate of " + before, Check.slot(b, 0), due);
    }

    private static void conjugateHasMostRows() {
        Check.sentence("4: False when it would have more than 8 rows");
        conjugates("1 1 1 1 1 1 1 1", 8);
        conjugates("8", 1, 1, 1, 1, 1, 1, 1, 1);
        conjugates("3 3 3 3 3 3 3 3", 8, 8, 8);
        conjugates("8 8 8", 3, 3, 3, 3, 3, 3, 3, 3);
        conjugates("8 1 1 1 1 1 1 1", 8, 1, 1, 1, 1, 1, 1, 1);
        int[][] wide = {{9}, {9, 8}, {24}, {12, 12}, {17, 1, 1, 1, 1, 1, 1, 1}};
        for (int[] rows : wide) {
            Check.saysNo("conjugate of a row 0 of " + rows[0], () -> {
                Bench b = Check.busy();
                b.shape(2, Check.bytes(rows));
                return b;
            }, b -> b.conjugate(2));
        }
    }

    private static void conjugateWithoutBoxes() {
        Check.sentence("4: The slot's rows become its columns");
        conjugates("");
        conjugates("1", 1);
        conjugates("2 2 1", 3, 2);
    }

    private static long rankOf(int... rows) {
        return Check.benchWith(rows).rank(0);
    }

    private static void rankFirstAndLast() {
        Check.sentence("5: the greater row 0 first");
        Check.same("rank without boxes", rankOf(), 0);
        Check.same("rank of 1", rankOf(1), 0);
        Check.same("rank of 24", rankOf(24), 0);
        Check.same("rank of 23 1", rankOf(23, 1), 1);
        Check.same("rank of 22 2", rankOf(22, 2), 2);
        Check.same("rank of 22 1 1", rankOf(22, 1, 1), 3);
        Check.same("rank of 4 2 1", rankOf(4, 2, 1), 5);
        Check.same("rank of 1 1 1 1 1 1 1 1", rankOf(1, 1, 1, 1, 1, 1, 1, 1), 21);
    }

    private static void rankOfAnyNumberOfRows() {
        Check.sentence("5: How many shapes (of any number of rows) come before it");
        Check.same("rank of 2 2 2 2 1, before any of 9 rows", rankOf(2, 2, 2, 2, 1), 25);
        // 3 1 1 1 1 1 1 1 1 comes before: 9 rows.
        Check.same("rank of 2 2 2 2 2 1", rankOf(2, 2, 2, 2, 2, 1), 50);
        Check.same("rank of 3 3 3 3 3 3 3 3", rankOf(3, 3, 3, 3, 3, 3, 3, 3), 1514);
    }

    private static void unranked(String due, int n, int rank) {
        Bench b = Check.busy();
        Check.raisesNothing("unrank " + n + " " + rank, () -> b.unrank(1, n, rank));
        Check.text("unrank " + n + " " + rank, Check.slot(b, 1), due);
    }

    private static void notUnranked(Class<? extends RuntimeException> due, int n, int rank) {
        for (int slot = 0; slot < 4; slot++) {
            int it = slot;
            Check.refuses("unrank " + n + " " + rank, due, Check::busy,
                    b -> b.unrank(it, n, rank));
        }
    }

    private static void unrankLeastAndMostBoxes() {
        Check.sentence("6: that with n boxes and this rank");
        unranked("1", 1, 0);
        unranked("23", 23, 0);
        unranked("24", 24, 0);
        unranked("23 1", 24, 1);
    }

    private static void unrankNotSoManyBoxes() {
        Check.sentence("6: IllegalArgumentException when n is not 0 .. 24");
        for (int n : new int[] {-1, 25, 26, -24, FAR[0], FAR[1]}) {
            notUnranked(IllegalArgumentException.class, n, 0);
        }
    }

    private static void unrankLastRank() {
        Check.sentence("6: this rank; the last one that there is");
        unranked("1", 1, 0);
        unranked("1 1", 2, 1);
        unranked("1 1 1 1", 4, 4);
        unranked("1 1 1 1 1 1 1 1", 8, 21);
    }

    private static void unrankNoSuchRank() {
        Check.sentence("6: NoSuchElementException when there is none (or rank is below 0)");
        int[][] pairs = {{0, 1}, {1, 1}, {2, 2}, {3, 3}, {4, 5}, {8, 22}, {9, 30}, {23, 1255},
            {24, 1575}, {24, 1576}};
        for (int[] pair : pairs) {
            notUnranked(NoSuchElementException.class, pair[0], pair[1]);
        }
        for (int n : new int[] {0, 1, 8, 9, 24}) {
            notUnranked(NoSuchElementException.class, n, -1);
            notUnranked(NoSuchElementException.class, n, FAR[0]);
            notUnranked(NoSuchElementException.class, n, FAR[1]);
        }
    }

    private static void unrankMostRows() {
        Check.sentence("6: UnsupportedOperationException when it has more than 8 rows; 8 are not");
        unranked("2 1 1 1 1 1 1 1", 9, 28);
        unranked("3 1 1 1 1 1 1 1", 10, 35);
        unranked("2 2 1 1 1 1 1 1", 10, 39);
        unranked("3 3 3 3 3 3 3 3", 24, 1514);
        unranked("17 1 1 1 1 1 1 1", 24, 44);
    }

    private static void unrankTooManyRows() {
        Check.sentence("6: UnsupportedOperationException when it has more than 8 rows");
        int[][] pairs = {{9, 29}, {10, 40}, {10, 41}, {11, 49}, {24, 1513}, {24, 1515}, {24, 1573},
            {24, 1574}};
        for (int[] pair : pairs) {
            notUnranked(UnsupportedOperationException.class, pair[0], pair[1]);
        }
    }

    private static void unrankWithoutBoxes() {
        Check.sentence("6: n is 0 .. 24");
        unranked("", 0, 0);
    }
}
