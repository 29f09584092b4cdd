/** The document's face, so that a test can ask the class and the plain one the same things. */
interface Face {
    boolean shape(int slot, long w);

    int row(int slot, int i);

    boolean conjugate(int slot);

    int rank(int slot);

    void unrank(int slot, int n, int rank);

    boolean letter(int word, int v);

    boolean cut(int word, int n);

    int length(int word);

    int at(int word, int i);

    int insert(int word, boolean columns);

    int entry(boolean q, int r, int c);

    void recover(int word);

    void read(int word);

    boolean equivalent();

    int rectify(int inner, int outer, int word, int order);

    void turn();

    long draw(int slot, long seed);

    long standard(int slot);

    long fillings(int slot, int word);

    long coefficient(int a, int b, int c);

    long character(int slot, int type);
}
