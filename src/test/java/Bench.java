/**
 * The class under test with its calls counted: what an object answers after its 512th call is free,
 * so a test that goes on longer is itself at fault.
 */
final class Bench implements Face {
    static final int CALLS = 512;

    private final TableauBench bench = new TableauBench();
    private int calls;

    /** How many calls the object has still to answer as the document says. */
    int callsLeft() {
        return CALLS - calls;
    }

    // An Error, as the tests catch what the class throws, and that are RuntimeExceptions.
    private TableauBench counted() {
        calls++;
        if (calls > CALLS) {
            throw new AssertionError("the test makes more than 512 calls on one object");
        }
        return bench;
    }

    @Override
    public boolean shape(int slot, long w) {
        return counted().shape(slot, w);
    }

    @Override
    public int row(int slot, int i) {
        return counted().row(slot, i);
    }

    @Override
    public boolean conjugate(int slot) {
        return counted().conjugate(slot);
    }

    @Override
    public int rank(int slot) {
        return counted().rank(slot);
    }

    @Override
    public void unrank(int slot, int n, int rank) {
        counted().unrank(slot, n, rank);
    }

    @Override
    public boolean letter(int word, int v) {
        return counted().letter(word, v);
    }

    @Override
    public boolean cut(int word, int n) {
        return counted().cut(word, n);
    }

    @Override
    public int length(int word) {
        return counted().length(word);
    }

    @Override
    public int at(int word, int i) {
        return counted().at(word, i);
    }

    @Override
    public int insert(int word, boolean columns) {
        return counted().insert(word, columns);
    }

    @Override
    public int entry(boolean q, int r, int c) {
        return counted().entry(q, r, c);
    }

    @Override
    public void recover(int word) {
        counted().recover(word);
    }

    @Override
    public void read(int word) {
        counted().read(word);
    }

    @Override
    public boolean equivalent() {
        return counted().equivalent();
    }

    @Override
    public int rectify(int inner, int outer, int word, int order) {
        return counted().rectify(inner, outer, word, order);
    }

    @Override
    public void turn() {
        counted().turn();
    }

    @Override
    public long draw(int slot, long seed) {
        return counted().draw(slot, seed);
    }

    @Override
    public long standard(int slot) {
        return counted().standard(slot);
    }

    @Override
    public long fillings(int slot, int word) {
        return counted().fillings(slot, word);
    }

    @Override
    public long coefficient(int a, int b, int c) {
        return counted().coefficient(a, b, c);
    }

    @Override
    public long character(int slot, int type) {
        return counted().character(slot, type);
    }
}
