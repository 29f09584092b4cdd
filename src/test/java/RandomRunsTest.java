import java.util.ArrayList;
import java.util.List;
import java.util.Random;

/**
 * All promises: long runs of calls, ordinary and wrong ones, on the class and on the plain one.
 * After each call both must have answered or thrown the same and show the same state.
 */
final class RandomRunsTest {
    private final Random random;
    private final TableauBench b = new TableauBench();
    private final PlainBench plain = new PlainBench();

    private RandomRunsTest(long seed) {
        random = new Random(seed);
    }

    private interface Answer {
        Object get();
    }

    public static void main(String[] args) {
        for (long seed = 0; seed < 60; seed++) {
            RandomRunsTest run = new RandomRunsTest(seed);
            for (int i = 0; i < 512; i++) {
                run.call();
            }
        }
        Check.end();
    }

    private static Answer nothing(Runnable call) {
        return () -> {
            call.run();
            return "done";
        };
    }

    private static String said(Answer call) {
        try {
            return String.valueOf(call.get());
        } catch (RuntimeException e) {
            return e.getClass().getSimpleName();
        }
    }

    private void same(String call, Answer got, Answer due) {
        Check.text(call, said(got), said(due));
        Check.text("after " + call, Check.all(b), plain.all());
    }

    private int slot() {
        return random.nextInt(40) == 0 ? random.nextInt(12) - 4 : random.nextInt(4);
    }

    private int word() {
        return random.nextInt(40) == 0 ? random.nextInt(8) - 3 : random.nextInt(2);
    }

    private long rows() {
        if (random.nextInt(12) == 0) {
            return random.nextInt(3) == 0 ? random.nextLong() : random.nextLong() >>> 40;
        }
        List<List<Integer>> all = new ArrayList<>();
        int n = random.nextInt(3) == 0 ? random.nextInt(25) : random.nextInt(9);
        PlainBench.partitions(n, n, new ArrayList<>(), all);
        all.removeIf(rows -> rows.size() > 8);
        return PlainBench.bytes(all.get(random.nextInt(all.size())));
    }

    private void call() {
        int s = slot();
        int w = word();
        switch (random.nextInt(22)) {
            case 0, 1 -> {
                long rows = rows();
                same("shape " + s + " " + rows, () -> b.shape(s, rows),
                        () -> plain.shape(s, rows));
            }
            case 2 -> {
                int i = random.nextInt(12) - 2;
                same("row", () -> b.row(s, i), () -> plain.row(s, i));
            }
            case 3 -> same("conjugate " + s, () -> b.conjugate(s), () -> plain.conjugate(s));
            case 4 -> same("rank", () -> b.rank(s), () -> plain.rank(s));
            case 5 -> unrank(s);
            case 6 -> spell(w);
            case 7 -> letter(w, random.nextInt(20) - 1);
            case 8 -> {
                int n = random.nextInt(19) - 1;
                same("cut " + w + " " + n, () -> b.cut(w, n), () -> plain.cut(w, n));
            }
            case 9 -> {
                int i = random.nextInt(20) - 2;
                same("length", () -> b.length(w), () -> plain.length(w));
                same("at", () -> b.at(w, i), () -> plain.at(w, i));
            }
            case 10, 11 -> {
                boolean columns = random.nextBoolean();
                same("insert", () -> b.insert(w, columns), () -> plain.insert(w, columns));
            }
            case 12 -> same("recover", nothing(() -> b.recover(w)),
                    nothing(() -> plain.recover(w)));
            case 13 -> same("read", nothing(() -> b.read(w)), nothing(() -> plain.read(w)));
            case 14 -> same("equivalent", b::equivalent, plain::equivalent);
            case 15, 16 -> rectify(s, slot(), w);
            case 17 -> same("turn", nothing(b::turn), nothing(plain::turn));
            case 18 -> {
                long seed = random.nextLong();
                same("draw", () -> b.draw(s, seed), () -> plain.draw(s, seed));
            }
            case 19 -> {
                same("standard", () -> b.standard(s), () -> plain.standard(s));
                same("fillings", () -> b.fillings(s, w), () -> plain.fillings(s, w));
            }
            case 20 -> coefficient(s, slot(), slot());
            default -> {
                int t = slot();
                same("character", () -> b.character(s, t), () -> plain.character(s, t));
            }
        }
    }

    private void letter(int w, int v) {
        same("letter " + w + " " + v, () -> b.letter(w, v), () -> plain.letter(w, v));
    }

    private void unrank(int s) {
        int n = random.nextInt(27) - 1;
        int rank = random.nextInt(6) == 0 ? random.nextInt(1700) - 20 : random.nextInt(30);
        same("unrank " + s + " " + n + " " + rank, nothing(() -> b.unrank(s, n, rank)),
                nothing(() -> plain.unrank(s, n, rank)));
    }

    /** A new word: often one of different letters, so that there is something to turn. */
    private void spell(int w) {
        same("cut", () -> b.cut(w, 0), () -> plain.cut(w, 0));
        List<Integer> letters = new ArrayList<>();
        int size = random.nextInt(18);
        int top = 1 + random.nextInt(16);
        boolean different = random.nextBoolean();
        for (int i = 0; i < size; i++) {
            letters.add(random.nextInt(i + 1), different ? i + 1 : 1 + random.nextInt(top));
        }
        for (int v : letters) {
            letter(w, v);
        }
    }

    /** Often with a word that fits: the last letters of one that rises from row to row. */
    private void rectify(int inner, int outer, int w) {
        int order = random.nextInt(10) == 0 ? random.nextInt(9) - 3 : random.nextInt(3);
        int boxes = 0;
        for (int r = 0; r < 8 && Math.min(inner, outer) >= 0 && Math.max(inner, outer) < 4; r++) {
            boxes += Math.max(0, plain.row(outer, r) - plain.row(inner, r));
        }
        if (random.nextInt(4) > 0 && boxes > 0) {
            same("cut", () -> b.cut(w, 0), () -> plain.cut(w, 0));
            for (int r = 7; r >= 0; r--) {
                int v = r + 1;
                for (int c = plain.row(inner, r); c < plain.row(outer, r); c++) {
                    v += random.nextInt(5) == 0 ? 1 : 0;
                    letter(w, v);
                }
            }
        }
        same("rectify", () -> b.rectify(inner, outer, w, order),
                () -> plain.rectify(inner, outer, w, order));
    }

    /** The plain one tries all words of the letters, so only few boxes are asked for. */
    private void coefficient(int s, int t, int u) {
        int boxes = 0;
        for (int r = 0; r < 8 && t >= 0 && t < 4; r++) {
            boxes += plain.row(t, r);
        }
        if (boxes <= 8) {
            same("coefficient", () -> b.coefficient(s, t, u), () -> plain.coefficient(s, t, u));
        }
    }
}
