import java.util.ArrayList;
import java.util.List;
import java.util.Random;

/**
 * All promises: long runs of calls, ordinary and wrong ones, on the class and on the plain one.
 * Both must answer or throw the same all along, and show the same state at the end.
 */
final class RandomRunsTest {
    private static final int RUNS = 1200;
    // What a look at the whole state, and a step with its letters, may need at most.
    private static final int LOOK = 220;
    private static final int STEP = 30;

    private final Random random;
    private final Bench b = new Bench();
    private final PlainBench plain = new PlainBench();

    private RandomRunsTest(long seed) {
        random = new Random(seed);
    }

    private interface Question {
        Object to(Face f);
    }

    private interface Order {
        void to(Face f);
    }

    public static void main(String[] args) {
        for (long seed = 0; seed < RUNS; seed++) {
            RandomRunsTest run = new RandomRunsTest(seed);
            // Some runs look at the state early, some late, and some go on to the last call.
            if (seed % 8 == 0) {
                run.goOnTo(STEP);
                run.goOnToTheLast();
            } else {
                run.goOnTo(LOOK + STEP + run.random.nextInt(Bench.CALLS - LOOK - STEP));
                Check.text("the state after run " + seed, Check.all(run.b), Check.all(run.plain));
            }
        }
        Check.end();
    }

    private void goOnTo(int callsLeft) {
        while (b.callsLeft() > callsLeft) {
            step();
        }
    }

    /** By steps of one call each. */
    private void goOnToTheLast() {
        while (b.callsLeft() > 0) {
            stepWithSlots(random.nextInt(6), slot());
        }
    }

    private void ask(String call, Question question) {
        Check.text(call, said(question, b), said(question, plain));
    }

    private void order(String call, Order order) {
        ask(call, f -> {
            order.to(f);
            return "done";
        });
    }

    private static String said(Question question, Face f) {
        try {
            return String.valueOf(question.to(f));
        } catch (RuntimeException e) {
            return e.getClass().getSimpleName();
        }
    }

    private int slot() {
        return random.nextInt(40) == 0 ? random.nextInt(12) - 4 : random.nextInt(4);
    }

    private int word() {
        return random.nextInt(40) == 0 ? random.nextInt(8) - 3 : random.nextInt(2);
    }

    private long rows() {
        if (random.nextInt(12) == 0) {
            return random.nextInt(3) == 0 ? random.nextLong() : random.nextLong() >>> 40;
        }
        List<List<Integer>> all = new ArrayList<>();
        int n = random.nextInt(3) == 0 ? random.nextInt(25) : random.nextInt(9);
        PlainBench.partitions(n, n, new ArrayList<>(), all);
        all.removeIf(rows -> rows.size() > 8);
        return PlainBench.bytes(all.get(random.nextInt(all.size())));
    }

    private void step() {
        int s = slot();
        int w = word();
        int kind = random.nextInt(22);
        if (kind < 6) {
            stepWithSlots(kind, s);
        } else if (kind < 10) {
            stepWithWords(kind, w);
        } else {
            stepWithBench(kind, s, w);
        }
    }

    private void stepWithSlots(int kind, int s) {
        switch (kind) {
            case 0, 1 -> {
                long rows = rows();
                ask("shape " + s + " " + rows, f -> f.shape(s, rows));
            }
            case 2 -> {
                int i = random.nextInt(12) - 2;
                ask("row", f -> f.row(s, i));
            }
            case 3 -> ask("conjugate " + s, f -> f.conjugate(s));
            case 4 -> ask("rank", f -> f.rank(s));
            default -> {
                int n = random.nextInt(27) - 1;
                boolean wide = random.nextInt(6) == 0;
                int rank = wide ? random.nextInt(1700) - 20 : random.nextInt(30);
                order("unrank " + s + " " + n + " " + rank, f -> f.unrank(s, n, rank));
            }
        }
    }

    private void stepWithWords(int kind, int w) {
        switch (kind) {
            case 6 -> spell(w);
            case 7 -> letter(w, random.nextInt(20) - 1);
            case 8 -> {
                int n = random.nextInt(19) - 1;
                ask("cut " + w + " " + n, f -> f.cut(w, n));
            }
            default -> {
                int i = random.nextInt(20) - 2;
                ask("length", f -> f.length(w));
                ask("at", f -> f.at(w, i));
            }
        }
    }

    private void stepWithBench(int kind, int s, int w) {
        switch (kind) {
            case 10, 11 -> {
                boolean columns = random.nextBoolean();
                ask("insert", f -> f.insert(w, columns));
                entry();
            }
            case 12 -> order("recover", f -> f.recover(w));
            case 13 -> order("read", f -> f.read(w));
            case 14 -> ask("equivalent", Face::equivalent);
            case 15, 16 -> rectify(s, slot(), w);
            case 17 -> order("turn", Face::turn);
            case 18 -> {
                long seed = random.nextLong();
                ask("draw", f -> f.draw(s, seed));
                entry();
            }
            case 19 -> {
                ask("standard", f -> f.standard(s));
                ask("fillings", f -> f.fillings(s, w));
            }
            case 20 -> coefficient(s, slot(), slot());
            default -> {
                int t = slot();
                ask("character", f -> f.character(s, t));
            }
        }
    }

    private void entry() {
        boolean q = random.nextBoolean();
        int r = random.nextInt(5) - 1;
        int c = random.nextInt(6) - 1;
        ask("entry", f -> f.entry(q, r, c));
    }

    private void letter(int w, int v) {
        ask("letter " + w + " " + v, f -> f.letter(w, v));
    }

    /** A new word: often one of different letters, so that there is something to turn. */
    private void spell(int w) {
        ask("cut", f -> f.cut(w, 0));
        List<Integer> letters = new ArrayList<>();
        int size = random.nextInt(18);
        int top = 1 + random.nextInt(16);
        boolean different = random.nextBoolean();
        for (int i = 0; i < size; i++) {
            letters.add(random.nextInt(i + 1), different ? i + 1 : 1 + random.nextInt(top));
        }
        for (int v : letters) {
            letter(w, v);
        }
    }

    /** Often with a word that fits: its letters rise from row to row. */
    private void rectify(int inner, int outer, int w) {
        int order = random.nextInt(10) == 0 ? random.nextInt(9) - 3 : random.nextInt(3);
        int boxes = 0;
        for (int r = 0; r < 8 && Math.min(inner, outer) >= 0 && Math.max(inner, outer) < 4; r++) {
            boxes += Math.max(0, plain.row(outer, r) - plain.row(inner, r));
        }
        if (random.nextInt(4) > 0 && boxes > 0 && boxes < STEP - 3) {
            ask("cut", f -> f.cut(w, 0));
            for (int r = 7; r >= 0; r--) {
                int v = r + 1;
                for (int c = plain.row(inner, r); c < plain.row(outer, r); c++) {
                    v += random.nextInt(5) == 0 ? 1 : 0;
                    letter(w, v);
                }
            }
        }
        ask("rectify", f -> f.rectify(inner, outer, w, order));
    }

    /** The plain one tries all words of the letters, so only few boxes are asked for. */
    private void coefficient(int s, int t, int u) {
        int boxes = 0;
        for (int r = 0; r < 8 && t >= 0 && t < 4; r++) {
            boxes += plain.row(t, r);
        }
        if (boxes <= 8) {
            ask("coefficient", f -> f.coefficient(s, t, u));
        }
    }
}
