import java.util.Arrays;
import java.util.NoSuchElementException;

/**
 * A bench for tableaux: four slots with shapes, two words, and the tableaux P and Q.
 *
 * <p>Everything that a call needs is made with the object and used again, so that no call makes
 * objects of its own.
 */
public final class TableauBench {
    private static final int SLOTS = 4;
    private static final int WORDS = 2;
    private static final int ROWS = 8;
    private static final int BOXES = 24;
    private static final int LETTERS = 16;
    private static final int ORDERS = 3;
    private static final int CHARACTER_BOXES = 14;

    // A word of 16 falling letters makes 16 rows, a slot of one row 24 columns.
    private static final int HEIGHT = 16;
    private static final int WIDTH = 24;

    private final Shape[] slots = new Shape[SLOTS];
    private final Word[] words = new Word[WORDS];
    private final int[] lengths = new int[ROWS];
    private final int[] places = new int[LETTERS + 1];
    private final Partitions partitions = new Partitions();
    private final Drawer drawer = new Drawer();
    private final Hooks hooks = new Hooks();
    private final Contents contents = new Contents();
    private final Product product = new Product();
    private final Tableau q = new Tableau();
    private final Tableau other = new Tableau();
    private Tableau p = new Tableau();
    private Tableau spare = new Tableau();
    private boolean qThere;

    public TableauBench() {
        for (int i = 0; i < SLOTS; i++) {
            slots[i] = new Shape();
        }
        for (int i = 0; i < WORDS; i++) {
            words[i] = new Word();
        }
    }

    public boolean shape(int slot, long w) throws IndexOutOfBoundsException {
        checkSlot(slot);
        int boxes = 0;
        for (int i = 0; i < ROWS; i++) {
            lengths[i] = (int) (w >>> (8 * i)) & 255;
            if (i > 0 && lengths[i] > lengths[i - 1]) {
                return false;
            }
            boxes += lengths[i];
        }
        if (boxes > BOXES) {
            return false;
        }
        slots[slot].take(lengths);
        return true;
    }

    public int row(int slot, int i) throws IndexOutOfBoundsException {
        checkSlot(slot);
        return slots[slot].lengthOf(i);
    }

    public boolean conjugate(int slot) throws IndexOutOfBoundsException {
        checkSlot(slot);
        Shape s = slots[slot];
        if (s.lengthOf(0) > ROWS) {
            return false;
        }
        for (int c = 0; c < ROWS; c++) {
            lengths[c] = s.heightOf(c);
        }
        s.take(lengths);
        return true;
    }

    public int rank(int slot) throws IndexOutOfBoundsException {
        checkSlot(slot);
        return partitions.before(slots[slot]);
    }

    public void unrank(int slot, int n, int rank)
            throws IndexOutOfBoundsException, IllegalArgumentException, NoSuchElementException,
                    UnsupportedOperationException {
        checkSlot(slot);
        if (n < 0 || n > BOXES) {
            throw new IllegalArgumentException("a shape has 0 to 24 boxes");
        }
        if (rank < 0 || rank >= partitions.all(n)) {
            throw new NoSuchElementException("no shape has this rank");
        }
        if (!partitions.find(n, rank, lengths)) {
            throw new UnsupportedOperationException("the shape has more than 8 rows");
        }
        slots[slot].take(lengths);
    }

    public boolean letter(int word, int v) throws IndexOutOfBoundsException {
        checkWord(word);
        Word w = words[word];
        if (v < 1 || v > LETTERS || w.size >= LETTERS) {
            return false;
        }
        w.append(v);
        return true;
    }

    public boolean cut(int word, int n) throws IndexOutOfBoundsException {
        checkWord(word);
        if (n < 0 || n > words[word].size) {
            return false;
        }
        words[word].size = n;
        return true;
    }

    public int length(int word) throws IndexOutOfBoundsException {
        checkWord(word);
        return words[word].size;
    }

    public int at(int word, int i) throws IndexOutOfBoundsException {
        checkWord(word);
        return words[word].letterAt(i);
    }

    public int insert(int word, boolean columns) throws IndexOutOfBoundsException {
        checkWord(word);
        Word w = words[word];
        p.clear();
        q.clear();
        for (int i = 0; i < w.size; i++) {
            int place = columns ? p.putByColumns(w.letters[i]) : p.putByRows(w.letters[i]);
            q.letters[place] = i + 1;
        }
        qThere = true;
        return p.rowsUsed();
    }

    public int entry(boolean q, int r, int c) {
        if (!q) {
            return p.letterAt(r, c);
        }
        return qThere ? this.q.letterAt(r, c) : 0;
    }

    public void recover(int word) throws IndexOutOfBoundsException, IllegalStateException {
        checkWord(word);
        if (!qThere) {
            throw new IllegalStateException("Q is away");
        }
        q.findPlaces(places);
        spare.copy(p);
        Word w = words[word];
        w.size = p.boxes();
        for (int k = w.size; k >= 1; k--) {
            w.letters[k - 1] = spare.takeByRows(places[k]);
        }
    }

    public void read(int word) throws IndexOutOfBoundsException, IllegalStateException {
        checkWord(word);
        if (p.boxes() > LETTERS || p.greatest() > LETTERS) {
            throw new IllegalStateException("the reading of P is no word");
        }
        p.readInto(words[word]);
    }

    public boolean equivalent() {
        spare.fillByRows(words[0]);
        other.fillByRows(words[1]);
        return spare.sameAs(other);
    }

    public int rectify(int inner, int outer, int word, int order)
            throws IndexOutOfBoundsException, IllegalArgumentException, IllegalStateException,
                    UnsupportedOperationException {
        checkSlot(inner);
        checkSlot(outer);
        checkWord(word);
        Shape in = slots[inner];
        Shape out = slots[outer];
        if (order < 0 || order >= ORDERS || !out.holds(in)) {
            throw new IllegalArgumentException("no such order, or no skew shape");
        }
        if (words[word].size != out.boxes() - in.boxes()) {
            throw new IllegalStateException("the word has another number of letters");
        }
        spare.fillSkew(in, out, words[word]);
        if (!spare.isColumnStrict()) {
            throw new UnsupportedOperationException("the filling is not column-strict");
        }
        slideAll(in, order);
        putSpareOnBench();
        return in.boxes();
    }

    public void turn() throws IllegalStateException {
        if (!p.isStandard()) {
            throw new IllegalStateException("P is not standard");
        }
        spare.clear();
        for (int k = p.boxes(); k >= 1; k--) {
            spare.letters[p.slideInto(0)] = k;
        }
        putSpareOnBench();
    }

    public long draw(int slot, long seed) throws IndexOutOfBoundsException {
        checkSlot(slot);
        drawer.begin(slots[slot], seed);
        spare.clear();
        for (int k = slots[slot].boxes(); k >= 1; k--) {
            spare.letters[drawer.takeCorner(k)] = k;
        }
        putSpareOnBench();
        return drawer.seed;
    }

    public long standard(int slot) throws IndexOutOfBoundsException {
        checkSlot(slot);
        return hooks.countStandard(slots[slot]);
    }

    public long fillings(int slot, int word) throws IndexOutOfBoundsException {
        checkSlot(slot);
        checkWord(word);
        if (words[word].size != slots[slot].boxes()) {
            return 0;
        }
        return contents.countTableaux(slots[slot], words[word]);
    }

    public long coefficient(int a, int b, int c) throws IndexOutOfBoundsException {
        checkSlot(a);
        checkSlot(b);
        checkSlot(c);
        Shape whole = slots[c];
        if (!whole.holds(slots[a]) || whole.boxes() != slots[a].boxes() + slots[b].boxes()) {
            return 0;
        }
        return product.count(slots[a], slots[b], whole);
    }

    public long character(int slot, int type)
            throws IndexOutOfBoundsException, IllegalStateException,
                    UnsupportedOperationException {
        checkSlot(slot);
        checkSlot(type);
        int boxes = slots[slot].boxes();
        if (boxes != slots[type].boxes()) {
            throw new IllegalStateException("the shapes have different numbers of boxes");
        }
        if (boxes > CHARACTER_BOXES) {
            throw new UnsupportedOperationException("the shapes have more than 14 boxes");
        }
        return hookSum(edgeOf(slots[slot]), slots[type], 0);
    }

    private static void checkSlot(int slot) {
        if (slot < 0 || slot >= SLOTS) {
            throw new IndexOutOfBoundsException("no such slot");
        }
    }

    private static void checkWord(int word) {
        if (word < 0 || word >= WORDS) {
            throw new IndexOutOfBoundsException("no such word");
        }
    }

    private void putSpareOnBench() {
        Tableau old = p;
        p = spare;
        spare = old;
        qThere = false;
    }

    private void slideAll(Shape inner, int order) {
        System.arraycopy(inner.rows, 0, lengths, 0, ROWS);
        int slides = inner.boxes();
        for (int done = 0; done < slides; done++) {
            boolean lowest = order == 0 || order == 2 && done % 2 == 0;
            int r = lowest ? lowestCorner(lengths) : highestCorner(lengths);
            lengths[r]--;
            spare.slideInto(r * WIDTH + lengths[r]);
        }
    }

    private static int lowestCorner(int[] rows) {
        int r = ROWS - 1;
        while (r > 0 && rows[r] == 0) {
            r--;
        }
        return r;
    }

    private static int highestCorner(int[] rows) {
        int r = 0;
        while (r < ROWS - 1 && rows[r] == rows[r + 1]) {
            r++;
        }
        return r;
    }

    /**
     * The shape as a set of 8 numbers, row i being its length + 7 - i: all differ, and to take a rim
     * hook of k boxes off the shape is to make one of them k less, to a number not in the set.
     */
    private static int edgeOf(Shape s) {
        int edge = 0;
        for (int i = 0; i < ROWS; i++) {
            edge |= 1 << (s.rows[i] + ROWS - 1 - i);
        }
        return edge;
    }

    /** The character of the edge's shape at the rows of type from the given one on. */
    private static long hookSum(int edge, Shape type, int row) {
        int k = type.lengthOf(row);
        if (k == 0) {
            return 1;
        }
        long sum = 0;
        for (int from = k; from < CHARACTER_BOXES + ROWS; from++) {
            int to = from - k;
            if ((edge >> from & 1) == 1 && (edge >> to & 1) == 0) {
                // The hook touches one row more for each number that the changed one passes.
                int passed = Integer.bitCount(edge & ((1 << from) - (1 << (to + 1))));
                long rest = hookSum(edge ^ (1 << from) ^ (1 << to), type, row + 1);
                sum += passed % 2 == 0 ? rest : -rest;
            }
        }
        return sum;
    }

    /** The lengths of at most 8 rows. */
    private static final class Shape {
        final int[] rows = new int[ROWS];

        void take(int[] lengths) {
            System.arraycopy(lengths, 0, rows, 0, ROWS);
        }

        int lengthOf(int r) {
            return r < 0 || r >= ROWS ? 0 : rows[r];
        }

        int heightOf(int c) {
            int height = 0;
            while (height < ROWS && rows[height] > c) {
                height++;
            }
            return height;
        }

        int boxes() {
            int sum = 0;
            for (int r = 0; r < ROWS; r++) {
                sum += rows[r];
            }
            return sum;
        }

        boolean holds(Shape inner) {
            for (int r = 0; r < ROWS; r++) {
                if (inner.rows[r] > rows[r]) {
                    return false;
                }
            }
            return true;
        }
    }

    /** At most 16 letters; what lies behind the size is left from before. */
    private static final class Word {
        final int[] letters = new int[LETTERS];
        int size;

        void append(int v) {
            if (size < LETTERS) {
                letters[size] = v;
                size++;
            }
        }

        int letterAt(int i) {
            return i < 0 || i >= size ? 0 : letters[i];
        }
    }

    /** A filling, straight or skew: the letter of box (r, c) at place r * WIDTH + c, 0 for no box. */
    private static final class Tableau {
        final int[] letters = new int[HEIGHT * WIDTH];

        int letterAt(int r, int c) {
            return r < 0 || r >= HEIGHT || c < 0 || c >= WIDTH ? 0 : letters[r * WIDTH + c];
        }

        void clear() {
            Arrays.fill(letters, 0);
        }

        void copy(Tableau from) {
            System.arraycopy(from.letters, 0, letters, 0, letters.length);
        }

        boolean sameAs(Tableau that) {
            for (int i = 0; i < letters.length; i++) {
                if (letters[i] != that.letters[i]) {
                    return false;
                }
            }
            return true;
        }

        int boxes() {
            int sum = 0;
            for (int i = 0; i < letters.length; i++) {
                sum += letters[i] > 0 ? 1 : 0;
            }
            return sum;
        }

        int greatest() {
            int most = 0;
            for (int i = 0; i < letters.length; i++) {
                most = Math.max(most, letters[i]);
            }
            return most;
        }

        int rowsUsed() {
            int r = 0;
            while (r < HEIGHT && letters[r * WIDTH] > 0) {
                r++;
            }
            return r;
        }

        /** Inserts a letter by rows, and tells the place of the new box. */
        int putByRows(int letter) {
            int place = 0;
            int x = letter;
            for (int r = 0; r < HEIGHT && x > 0; r++) {
                place = r * WIDTH + firstGreater(r, x);
                int replaced = letters[place];
                letters[place] = x;
                x = replaced;
            }
            return place;
        }

        /** Inserts a letter by columns, and tells the place of the new box. */
        int putByColumns(int letter) {
            int place = 0;
            int x = letter;
            for (int c = 0; c < WIDTH && x > 0; c++) {
                place = firstNotLess(c, x) * WIDTH + c;
                int replaced = letters[place];
                letters[place] = x;
                x = replaced;
            }
            return place;
        }

        /** The column of the first letter in the row that is greater, or of the row's end. */
        private int firstGreater(int r, int x) {
            int c = 0;
            while (c < WIDTH - 1 && letterAt(r, c) > 0 && letterAt(r, c) <= x) {
                c++;
            }
            return c;
        }

        /** The row of the first letter in the column that is not less, or of the column's end. */
        private int firstNotLess(int c, int x) {
            int r = 0;
            while (r < HEIGHT - 1 && letterAt(r, c) > 0 && letterAt(r, c) < x) {
                r++;
            }
            return r;
        }

        void fillByRows(Word w) {
            clear();
            for (int i = 0; i < w.size; i++) {
                putByRows(w.letters[i]);
            }
        }

        /** Undoes the insertion by rows that made the box at the place, and tells its letter. */
        int takeByRows(int place) {
            int x = letters[place];
            letters[place] = 0;
            for (int r = place / WIDTH - 1; r >= 0; r--) {
                int above = r * WIDTH + lastLess(r, x);
                int replaced = letters[above];
                letters[above] = x;
                x = replaced;
            }
            return x;
        }

        private int lastLess(int r, int x) {
            int c = 0;
            while (c < WIDTH - 1 && letterAt(r, c + 1) > 0 && letterAt(r, c + 1) < x) {
                c++;
            }
            return c;
        }

        /** Notes for each letter of a standard tableau where it is. */
        void findPlaces(int[] places) {
            for (int i = 0; i < letters.length; i++) {
                if (letters[i] > 0 && letters[i] < places.length) {
                    places[letters[i]] = i;
                }
            }
        }

        void readInto(Word w) {
            w.size = 0;
            for (int r = HEIGHT - 1; r >= 0; r--) {
                for (int c = 0; c < WIDTH && letterAt(r, c) > 0; c++) {
                    w.append(letterAt(r, c));
                }
            }
        }

        void fillSkew(Shape inner, Shape outer, Word reading) {
            clear();
            int next = 0;
            for (int r = ROWS - 1; r >= 0; r--) {
                for (int c = inner.rows[r]; c < outer.rows[r]; c++) {
                    letters[r * WIDTH + c] = reading.letterAt(next);
                    next++;
                }
            }
        }

        boolean isColumnStrict() {
            for (int i = 0; i < letters.length; i++) {
                int right = letterAt(i / WIDTH, i % WIDTH + 1);
                int below = letterAt(i / WIDTH + 1, i % WIDTH);
                if (right > 0 && right < letters[i] || below > 0 && below <= letters[i]) {
                    return false;
                }
            }
            return true;
        }

        /** Whether this tableau has the letters 1 to its number of boxes, each once. */
        boolean isStandard() {
            int seen = 0;
            for (int i = 0; i < letters.length; i++) {
                if (letters[i] > 0) {
                    seen |= 1 << letters[i];
                }
            }
            return seen == (1 << (boxes() + 1)) - 2;
        }

        /** Slides a hole out from the place, and tells where it was last. */
        int slideInto(int place) {
            int hole = place;
            for (int step = 0; step < HEIGHT + WIDTH; step++) {
                int source = sourceFor(hole);
                if (source == hole) {
                    break;
                }
                letters[hole] = letters[source];
                hole = source;
            }
            letters[hole] = 0;
            return hole;
        }

        /** The place whose letter moves into the hole; the hole itself, if there is none. */
        private int sourceFor(int hole) {
            int right = letterAt(hole / WIDTH, hole % WIDTH + 1);
            int below = letterAt(hole / WIDTH + 1, hole % WIDTH);
            if (right == 0 && below == 0) {
                return hole;
            }
            return below > 0 && (right == 0 || below <= right) ? hole + WIDTH : hole + 1;
        }
    }

    /** Counts shapes of any number of rows. */
    private static final class Partitions {
        // atMost[n][m]: the shapes with n boxes and no row longer than m.
        private final int[][] atMost = new int[BOXES + 1][BOXES + 1];

        Partitions() {
            for (int n = 0; n <= BOXES; n++) {
                atMost[n][0] = n == 0 ? 1 : 0;
                for (int m = 1; m <= BOXES; m++) {
                    atMost[n][m] = atMost[n][m - 1] + (n >= m ? atMost[n - m][m] : 0);
                }
            }
        }

        int all(int n) {
            return atMost[n][n];
        }

        int before(Shape s) {
            int left = s.boxes();
            int most = left;
            int sum = 0;
            for (int r = 0; r < ROWS; r++) {
                sum += atMost[left][most] - atMost[left][s.rows[r]];
                most = s.rows[r];
                left -= most;
            }
            return sum;
        }

        /** Finds the shape with n boxes and this rank; false, if its rows are too many. */
        boolean find(int n, int rank, int[] rows) {
            int left = n;
            int most = n;
            int before = rank;
            for (int r = 0; r < ROWS; r++) {
                int length = Math.min(most, left);
                while (length > 0 && before >= atMost[left - length][length]) {
                    before -= atMost[left - length][length];
                    length--;
                }
                rows[r] = length;
                most = length;
                left -= length;
            }
            return left == 0;
        }
    }

    /** Takes corners off a shape by walks along hooks. */
    private static final class Drawer {
        private final Shape left = new Shape();
        private long seed;
        private int r;
        private int c;

        void begin(Shape s, long firstSeed) {
            left.take(s.rows);
            seed = firstSeed;
        }

        /** Takes a corner off the k boxes that are left, and tells its place in a tableau. */
        int takeCorner(int k) {
            goToBox(numberBelow(k));
            int others = arm() + leg();
            for (int step = 0; step < HEIGHT + WIDTH && others > 0; step++) {
                goAlongHook(numberBelow(others));
                others = arm() + leg();
            }
            left.rows[r]--;
            return r * WIDTH + c;
        }

        private int numberBelow(int k) {
            seed = seed * 6364136223846793005L + 1442695040888963407L;
            return k > 0 ? (int) ((seed >>> 33) % k) : 0;
        }

        private void goToBox(int number) {
            r = 0;
            c = number;
            while (r < ROWS - 1 && c >= left.rows[r]) {
                c -= left.rows[r];
                r++;
            }
        }

        private void goAlongHook(int number) {
            int arm = arm();
            if (number < arm) {
                c += number + 1;
            } else {
                r += number - arm + 1;
            }
        }

        private int arm() {
            return left.rows[r] - c - 1;
        }

        private int leg() {
            return left.heightOf(c) - r - 1;
        }
    }

    /** Counts standard tableaux by the lengths of the hooks. */
    private static final class Hooks {
        private final int[] powers = new int[BOXES + 1];

        /**
         * The factorial of the number of boxes over the product of the hooks' lengths; as 24! fits
         * into no long, the powers of the factors are reckoned with.
         */
        long countStandard(Shape s) {
            Arrays.fill(powers, 0);
            int boxes = s.boxes();
            for (int i = 1; i <= boxes; i++) {
                powers[i]++;
            }
            for (int r = 0; r < ROWS; r++) {
                for (int c = 0; c < s.rows[r]; c++) {
                    powers[s.rows[r] - c + s.heightOf(c) - r - 1]--;
                }
            }
            splitIntoPrimes();
            long count = 1;
            for (int i = 2; i <= BOXES; i++) {
                for (int k = 0; k < powers[i]; k++) {
                    count *= i;
                }
            }
            return count;
        }

        private void splitIntoPrimes() {
            for (int i = BOXES; i >= 2; i--) {
                int d = leastDivisor(i);
                if (d < i) {
                    powers[d] += powers[i];
                    powers[i / d] += powers[i];
                    powers[i] = 0;
                }
            }
        }

        private static int leastDivisor(int i) {
            for (int d = 2; d < i; d++) {
                if (i % d == 0) {
                    return d;
                }
            }
            return i;
        }
    }

    /**
     * Counts tableaux by their contents. All shapes inside the given one are numbered, the lesser
     * row 0 first, of those with the same one the lesser row 1, and so on; letter by letter it is
     * counted how many tableaux of each there are.
     */
    private static final class Contents {
        // The most shapes inside one of 16 boxes are those inside (6, 4, 2, 2, 1, 1).
        private static final int INSIDE = 181;

        // choices[r][m]: the ways to go on inside from row r, when that is at most m long.
        private final int[][] choices = new int[ROWS + 1][LETTERS + 1];
        // without[r][i]: the number of shape i with a box less in row r; -1, if that is none.
        private final int[][] without = new int[ROWS][INSIDE];
        private final int[] sizes = new int[INSIDE];
        private final long[] ways = new long[INSIDE];
        private final int[] perLetter = new int[LETTERS + 1];
        private final Shape inside = new Shape();
        private int shapes;

        long countTableaux(Shape s, Word w) {
            countLetters(w);
            countChoices(s);
            numberShapes(s);
            Arrays.fill(ways, 0);
            ways[0] = 1;
            int boxes = 0;
            for (int v = 1; v <= LETTERS; v++) {
                if (perLetter[v] > 0) {
                    boxes += perLetter[v];
                    addLetter(s.heightOf(0));
                    keepOnly(boxes);
                }
            }
            return ways[shapes - 1];
        }

        private void countLetters(Word w) {
            Arrays.fill(perLetter, 0);
            for (int i = 0; i < w.size; i++) {
                perLetter[w.letters[i]]++;
            }
        }

        private void countChoices(Shape s) {
            Arrays.fill(choices[ROWS], 1);
            for (int r = ROWS - 1; r >= 0; r--) {
                int sum = 0;
                for (int m = 0; m <= LETTERS; m++) {
                    sum += m <= s.rows[r] ? choices[r + 1][m] : 0;
                    choices[r][m] = sum;
                }
            }
            shapes = Math.min(choices[0][LETTERS], INSIDE);
        }

        private void numberShapes(Shape s) {
            Arrays.fill(inside.rows, 0);
            for (int i = 0; i < shapes; i++) {
                sizes[i] = inside.boxes();
                for (int r = 0; r < ROWS; r++) {
                    int length = inside.rows[r];
                    boolean corner = length > inside.lengthOf(r + 1);
                    without[r][i] = corner ? i - choices[r + 1][length - 1] : -1;
                }
                goToNext(s);
            }
        }

        private void goToNext(Shape s) {
            int r = ROWS - 1;
            while (r > 0 && inside.rows[r] >= Math.min(s.rows[r], inside.rows[r - 1])) {
                inside.rows[r] = 0;
                r--;
            }
            inside.rows[r]++;
        }

        /**
         * Puts any number of equal letters into the rows, the lowest row first: what is put into a
         * row then stays left of the end that the row above had, so no two share a column.
         */
        private void addLetter(int height) {
            for (int r = height - 1; r >= 0; r--) {
                for (int i = 0; i < shapes; i++) {
                    if (without[r][i] >= 0) {
                        ways[i] += ways[without[r][i]];
                    }
                }
            }
        }

        private void keepOnly(int boxes) {
            for (int i = 0; i < shapes; i++) {
                if (sizes[i] != boxes) {
                    ways[i] = 0;
                }
            }
        }
    }

    /** Counts the fillings that a product coefficient is, box by box from the reading's end. */
    private static final class Product {
        private final int[] letters = new int[BOXES];
        // The numbers of the boxes beside, -1 for none.
        private final int[] right = new int[BOXES];
        private final int[] above = new int[BOXES];
        private final int[] used = new int[ROWS];
        private final Shape wanted = new Shape();
        private int boxes;

        long count(Shape a, Shape b, Shape c) {
            wanted.take(b.rows);
            Arrays.fill(used, 0);
            numberBoxes(a, c);
            return waysFrom(this, 0);
        }

        private void numberBoxes(Shape a, Shape c) {
            boxes = 0;
            int rowAbove = 0;
            for (int r = 0; r < ROWS; r++) {
                int first = boxes;
                for (int x = c.rows[r] - 1; x >= a.rows[r]; x--) {
                    right[boxes] = boxes > first ? boxes - 1 : -1;
                    boolean under = r > 0 && x >= a.rows[r - 1];
                    above[boxes] = under ? rowAbove + c.rows[r - 1] - 1 - x : -1;
                    boxes++;
                }
                rowAbove = first;
            }
        }

        /** Letters are counted from 0 here, as the rows are that tell how many there are. */
        private static long waysFrom(Product p, int box) {
            if (box >= p.boxes) {
                return 1;
            }
            int least = p.above[box] < 0 ? 0 : p.letters[p.above[box]] + 1;
            int most = p.right[box] < 0 ? ROWS - 1 : p.letters[p.right[box]];
            long sum = 0;
            for (int v = least; v <= most; v++) {
                if (p.mayCome(v)) {
                    p.letters[box] = v;
                    p.used[v]++;
                    sum += waysFrom(p, box + 1);
                    p.used[v]--;
                }
            }
            return sum;
        }

        private boolean mayCome(int v) {
            return used[v] < wanted.rows[v] && (v == 0 || used[v] < used[v - 1]);
        }
    }
}
