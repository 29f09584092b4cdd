import java.util.ArrayList;
import java.util.HashMap;
import java.util.HashSet;
import java.util.List;
import java.util.Map;
import java.util.NoSuchElementException;
import java.util.Set;
import java.util.TreeMap;

/**
 * The document word for word, with lists and maps and without a thought of speed: what the class is
 * held against. It shares no way of counting with the class.
 */
final class PlainBench implements Face {
    private final List<List<Integer>> slots = new ArrayList<>();
    private final List<List<Integer>> words = new ArrayList<>();
    private List<List<Integer>> p = new ArrayList<>();
    private List<List<Integer>> q;

    PlainBench() {
        for (int i = 0; i < 4; i++) {
            slots.add(new ArrayList<>());
        }
        words.add(new ArrayList<>());
        words.add(new ArrayList<>());
    }

    // Shapes.

    @Override
    public boolean shape(int slot, long w) {
        slotOf(slot);
        List<Integer> rows = new ArrayList<>();
        int sum = 0;
        for (int i = 0; i < 8; i++) {
            rows.add((int) (w >> (8 * i) & 255));
            sum += rows.get(i);
            if (i > 0 && rows.get(i) > rows.get(i - 1)) {
                return false;
            }
        }
        if (sum > 24) {
            return false;
        }
        rows.removeIf(length -> length == 0);
        slots.set(slot, rows);
        return true;
    }

    @Override
    public int row(int slot, int i) {
        List<Integer> rows = slotOf(slot);
        return i >= 0 && i < rows.size() ? rows.get(i) : 0;
    }

    @Override
    public boolean conjugate(int slot) {
        List<Integer> rows = slotOf(slot);
        List<Integer> columns = new ArrayList<>();
        for (int c = 0; !rows.isEmpty() && c < rows.get(0); c++) {
            int height = 0;
            for (int length : rows) {
                height += length > c ? 1 : 0;
            }
            columns.add(height);
        }
        if (columns.size() > 8) {
            return false;
        }
        slots.set(slot, columns);
        return true;
    }

    @Override
    public int rank(int slot) {
        int n = sum(slotOf(slot));
        List<List<Integer>> all = new ArrayList<>();
        partitions(n, n, new ArrayList<>(), all);
        return all.indexOf(slotOf(slot));
    }

    @Override
    public void unrank(int slot, int n, int rank) {
        slotOf(slot);
        if (n < 0 || n > 24) {
            throw new IllegalArgumentException();
        }
        List<List<Integer>> all = new ArrayList<>();
        partitions(n, n, new ArrayList<>(), all);
        if (rank < 0 || rank >= all.size()) {
            throw new NoSuchElementException();
        }
        if (all.get(rank).size() > 8) {
            throw new UnsupportedOperationException();
        }
        slots.set(slot, all.get(rank));
    }

    // Words.

    @Override
    public boolean letter(int word, int v) {
        List<Integer> w = wordOf(word);
        return v >= 1 && v <= 16 && w.size() < 16 && w.add(v);
    }

    @Override
    public boolean cut(int word, int n) {
        List<Integer> w = wordOf(word);
        if (n < 0 || n > w.size()) {
            return false;
        }
        words.set(word, new ArrayList<>(w.subList(0, n)));
        return true;
    }

    @Override
    public int length(int word) {
        return wordOf(word).size();
    }

    @Override
    public int at(int word, int i) {
        List<Integer> w = wordOf(word);
        return i >= 0 && i < w.size() ? w.get(i) : 0;
    }

    // The bench.

    @Override
    public int insert(int word, boolean columns) {
        List<Integer> w = wordOf(word);
        p = new ArrayList<>();
        q = new ArrayList<>();
        for (int i = 0; i < w.size(); i++) {
            int[] box = columns ? putByColumns(p, w.get(i)) : putByRows(p, w.get(i));
            setBox(q, box[0], box[1], i + 1);
        }
        return p.size();
    }

    @Override
    public int entry(boolean fromQ, int r, int c) {
        return fromQ && q == null ? 0 : letterAt(fromQ ? q : p, r, c);
    }

    @Override
    public void recover(int word) {
        wordOf(word);
        if (q == null) {
            throw new IllegalStateException();
        }
        List<List<Integer>> left = deepCopy(p);
        List<Integer> w = new ArrayList<>();
        for (int k = size(p); k >= 1; k--) {
            int r = 0;
            while (!q.get(r).contains(k)) {
                r++;
            }
            int x = left.get(r).remove(left.get(r).size() - 1);
            for (int up = r - 1; up >= 0; up--) {
                int c = left.get(up).size() - 1;
                while (left.get(up).get(c) >= x) {
                    c--;
                }
                x = left.get(up).set(c, x);
            }
            w.add(0, x);
        }
        words.set(word, w);
    }

    @Override
    public void read(int word) {
        wordOf(word);
        List<Integer> w = new ArrayList<>();
        for (int r = p.size() - 1; r >= 0; r--) {
            w.addAll(p.get(r));
        }
        if (w.size() > 16 || w.stream().anyMatch(v -> v > 16)) {
            throw new IllegalStateException();
        }
        words.set(word, w);
    }

    @Override
    public boolean equivalent() {
        List<List<Integer>> first = new ArrayList<>();
        List<List<Integer>> second = new ArrayList<>();
        words.get(0).forEach(v -> putByRows(first, v));
        words.get(1).forEach(v -> putByRows(second, v));
        return first.equals(second);
    }

    @Override
    public int rectify(int inner, int outer, int word, int order) {
        List<Integer> in = new ArrayList<>(slotOf(inner));
        List<Integer> out = slotOf(outer);
        List<Integer> w = wordOf(word);
        if (order < 0 || order > 2 || !inside(in, out)) {
            throw new IllegalArgumentException();
        }
        if (w.size() != sum(out) - sum(in)) {
            throw new IllegalStateException();
        }
        Map<List<Integer>, Integer> filling = new HashMap<>();
        int next = 0;
        for (int r = out.size() - 1; r >= 0; r--) {
            for (int c = r < in.size() ? in.get(r) : 0; c < out.get(r); c++) {
                filling.put(List.of(r, c), w.get(next++));
            }
        }
        if (!columnStrict(filling)) {
            throw new UnsupportedOperationException();
        }
        int slides = 0;
        while (!in.isEmpty()) {
            List<Integer> rows = corners(in);
            boolean last = order == 0 || order == 2 && slides % 2 == 0;
            int r = rows.get(last ? rows.size() - 1 : 0);
            slide(filling, r, in.get(r) - 1);
            in = shorter(in, r);
            slides++;
        }
        p = asRows(filling);
        q = null;
        return slides;
    }

    @Override
    public void turn() {
        int n = size(p);
        Set<Integer> letters = new HashSet<>();
        p.forEach(letters::addAll);
        for (int v = 1; v <= n; v++) {
            if (!letters.contains(v)) {
                throw new IllegalStateException();
            }
        }
        Map<List<Integer>, Integer> filling = new HashMap<>();
        for (int r = 0; r < p.size(); r++) {
            for (int c = 0; c < p.get(r).size(); c++) {
                filling.put(List.of(r, c), p.get(r).get(c));
            }
        }
        Map<List<Integer>, Integer> turned = new HashMap<>();
        for (int k = n; k >= 1; k--) {
            filling.remove(List.of(0, 0));
            turned.put(slide(filling, 0, 0), k);
        }
        p = asRows(turned);
        q = null;
    }

    @Override
    public long draw(int slot, long seed) {
        List<Integer> rows = slotOf(slot);
        List<List<Integer>> boxes = new ArrayList<>();
        for (int r = 0; r < rows.size(); r++) {
            for (int c = 0; c < rows.get(r); c++) {
                boxes.add(List.of(r, c));
            }
        }
        Map<List<Integer>, Integer> drawn = new HashMap<>();
        for (int k = boxes.size(); k >= 1; k--) {
            seed = seed * 6364136223846793005L + 1442695040888963407L;
            List<Integer> box = boxes.get((int) ((seed >>> 33) % k));
            List<List<Integer>> others = othersInHook(boxes, box);
            while (!others.isEmpty()) {
                seed = seed * 6364136223846793005L + 1442695040888963407L;
                box = others.get((int) ((seed >>> 33) % others.size()));
                others = othersInHook(boxes, box);
            }
            drawn.put(box, k);
            boxes.remove(box);
        }
        p = asRows(drawn);
        q = null;
        return seed;
    }

    // Counts.

    /** The greatest letter can stand in any corner. */
    @Override
    public long standard(int slot) {
        return standardOf(slotOf(slot), new HashMap<>());
    }

    private static long standardOf(List<Integer> rows, Map<List<Integer>, Long> known) {
        if (rows.isEmpty()) {
            return 1;
        }
        Long before = known.get(rows);
        if (before != null) {
            return before;
        }
        long ways = 0;
        for (int r : corners(rows)) {
            ways += standardOf(shorter(rows, r), known);
        }
        known.put(rows, ways);
        return ways;
    }

    /** The greatest letters fill what lies between the shape and one inside it. */
    @Override
    public long fillings(int slot, int word) {
        List<Integer> rows = slotOf(slot);
        List<Integer> w = wordOf(word);
        if (w.size() != sum(rows)) {
            return 0;
        }
        TreeMap<Integer, Integer> times = new TreeMap<>();
        w.forEach(v -> times.merge(v, 1, Integer::sum));
        return fillingsOf(rows, new ArrayList<>(times.values()), new HashMap<>());
    }

    private static long fillingsOf(List<Integer> rows, List<Integer> times,
            Map<List<Integer>, Long> known) {
        if (times.isEmpty()) {
            return 1;
        }
        Long before = known.get(rows);
        if (before != null) {
            return before;
        }
        List<Integer> fewer = times.subList(0, times.size() - 1);
        long ways = 0;
        for (List<Integer> s : shapesInside(rows)) {
            if (sum(s) == sum(fewer) && noTwoInAColumn(s, rows)) {
                ways += fillingsOf(s, fewer, known);
            }
        }
        known.put(rows, ways);
        return ways;
    }

    private static boolean noTwoInAColumn(List<Integer> s, List<Integer> rows) {
        for (int r = 1; r < rows.size(); r++) {
            if (rows.get(r) > (r - 1 < s.size() ? s.get(r - 1) : 0)) {
                return false;
            }
        }
        return true;
    }

    /** All fillings with the right letters are made, and looked at only when they are whole. */
    @Override
    public long coefficient(int a, int b, int c) {
        List<Integer> in = slotOf(a);
        List<Integer> times = new ArrayList<>(slotOf(b));
        List<Integer> out = slotOf(c);
        if (!inside(in, out) || sum(out) != sum(in) + sum(times)) {
            return 0;
        }
        List<List<Integer>> boxes = new ArrayList<>();
        for (int r = out.size() - 1; r >= 0; r--) {
            for (int x = r < in.size() ? in.get(r) : 0; x < out.get(r); x++) {
                boxes.add(List.of(r, x));
            }
        }
        return wholeFillings(boxes, new ArrayList<>(), times);
    }

    private static long wholeFillings(List<List<Integer>> boxes, List<Integer> reading,
            List<Integer> left) {
        if (reading.size() == boxes.size()) {
            Map<List<Integer>, Integer> filling = new HashMap<>();
            for (int i = 0; i < boxes.size(); i++) {
                filling.put(boxes.get(i), reading.get(i));
            }
            return columnStrict(filling) && fromEndNeverMore(reading) ? 1 : 0;
        }
        long ways = 0;
        for (int i = 0; i < left.size(); i++) {
            if (left.get(i) > 0) {
                left.set(i, left.get(i) - 1);
                reading.add(i + 1);
                ways += wholeFillings(boxes, reading, left);
                reading.remove(reading.size() - 1);
                left.set(i, left.get(i) + 1);
            }
        }
        return ways;
    }

    private static boolean fromEndNeverMore(List<Integer> reading) {
        int[] times = new int[32];
        for (int i = reading.size() - 1; i >= 0; i--) {
            int v = reading.get(i);
            times[v]++;
            if (v > 1 && times[v] > times[v - 1]) {
                return false;
            }
        }
        return true;
    }

    @Override
    public long character(int slot, int type) {
        List<Integer> s = slotOf(slot);
        List<Integer> t = slotOf(type);
        if (sum(s) != sum(t)) {
            throw new IllegalStateException();
        }
        if (sum(s) > 14) {
            throw new UnsupportedOperationException();
        }
        return characterOf(s, t, new HashMap<>());
    }

    private static long characterOf(List<Integer> s, List<Integer> t,
            Map<List<Integer>, Long> known) {
        if (t.isEmpty()) {
            return 1;
        }
        Long before = known.get(s);
        if (before != null) {
            return before;
        }
        long sum = 0;
        for (List<Integer> rest : shapesInside(s)) {
            if (sum(s) - sum(rest) == t.get(0)) {
                Set<List<Integer>> hook = new HashSet<>();
                Set<Integer> touched = new HashSet<>();
                for (int r = 0; r < s.size(); r++) {
                    for (int c = r < rest.size() ? rest.get(r) : 0; c < s.get(r); c++) {
                        hook.add(List.of(r, c));
                        touched.add(r);
                    }
                }
                if (isRimHook(hook)) {
                    long sign = touched.size() % 2 == 1 ? 1 : -1;
                    sum += sign * characterOf(rest, t.subList(1, t.size()), known);
                }
            }
        }
        known.put(s, sum);
        return sum;
    }

    private static boolean isRimHook(Set<List<Integer>> boxes) {
        for (List<Integer> box : boxes) {
            int r = box.get(0);
            int c = box.get(1);
            if (boxes.contains(List.of(r + 1, c)) && boxes.contains(List.of(r, c + 1))
                    && boxes.contains(List.of(r + 1, c + 1))) {
                return false;
            }
        }
        Set<List<Integer>> reached = new HashSet<>();
        reach(boxes, boxes.iterator().next(), reached);
        return reached.size() == boxes.size();
    }

    private static void reach(Set<List<Integer>> boxes, List<Integer> box,
            Set<List<Integer>> reached) {
        if (boxes.contains(box) && reached.add(box)) {
            int r = box.get(0);
            int c = box.get(1);
            reach(boxes, List.of(r + 1, c), reached);
            reach(boxes, List.of(r, c + 1), reached);
            if (r > 0) {
                reach(boxes, List.of(r - 1, c), reached);
            }
            if (c > 0) {
                reach(boxes, List.of(r, c - 1), reached);
            }
        }
    }

    // What the calls share.

    static void partitions(int n, int most, List<Integer> begun, List<List<Integer>> all) {
        if (n == 0) {
            all.add(new ArrayList<>(begun));
            return;
        }
        for (int length = Math.min(n, most); length >= 1; length--) {
            begun.add(length);
            partitions(n - length, length, begun, all);
            begun.remove(begun.size() - 1);
        }
    }

    static long bytes(List<Integer> rows) {
        long w = 0;
        for (int i = rows.size() - 1; i >= 0; i--) {
            w = w * 256 + rows.get(i);
        }
        return w;
    }

    static String spaced(List<Integer> numbers) {
        StringBuilder s = new StringBuilder();
        for (int v : numbers) {
            s.append(s.length() > 0 ? " " : "").append(v);
        }
        return s.toString();
    }

    private List<Integer> slotOf(int slot) {
        if (slot < 0 || slot > 3) {
            throw new IndexOutOfBoundsException();
        }
        return slots.get(slot);
    }

    private List<Integer> wordOf(int word) {
        if (word < 0 || word > 1) {
            throw new IndexOutOfBoundsException();
        }
        return words.get(word);
    }

    private static int sum(List<Integer> numbers) {
        int sum = 0;
        for (int v : numbers) {
            sum += v;
        }
        return sum;
    }

    private static int size(List<List<Integer>> tableau) {
        int sum = 0;
        for (List<Integer> row : tableau) {
            sum += row.size();
        }
        return sum;
    }

    private static boolean inside(List<Integer> in, List<Integer> out) {
        for (int r = 0; r < in.size(); r++) {
            if (r >= out.size() || in.get(r) > out.get(r)) {
                return false;
            }
        }
        return true;
    }

    private static List<Integer> corners(List<Integer> rows) {
        List<Integer> all = new ArrayList<>();
        for (int r = 0; r < rows.size(); r++) {
            if (r + 1 == rows.size() || rows.get(r + 1) < rows.get(r)) {
                all.add(r);
            }
        }
        return all;
    }

    private static List<Integer> shorter(List<Integer> rows, int r) {
        List<Integer> less = new ArrayList<>(rows);
        less.set(r, less.get(r) - 1);
        less.removeIf(length -> length == 0);
        return less;
    }

    private static List<List<Integer>> shapesInside(List<Integer> rows) {
        List<List<Integer>> all = new ArrayList<>();
        for (int n = 0; n <= sum(rows); n++) {
            List<List<Integer>> some = new ArrayList<>();
            partsInside(n, rows, new ArrayList<>(), some);
            all.addAll(some);
        }
        return all;
    }

    private static void partsInside(int n, List<Integer> rows, List<Integer> begun,
            List<List<Integer>> all) {
        if (n == 0) {
            all.add(new ArrayList<>(begun));
        } else if (begun.size() < rows.size()) {
            int most = begun.isEmpty() ? n : begun.get(begun.size() - 1);
            for (int v = 1; v <= Math.min(n, Math.min(most, rows.get(begun.size()))); v++) {
                begun.add(v);
                partsInside(n - v, rows, begun, all);
                begun.remove(begun.size() - 1);
            }
        }
    }

    private static boolean columnStrict(Map<List<Integer>, Integer> filling) {
        for (Map.Entry<List<Integer>, Integer> e : filling.entrySet()) {
            for (Map.Entry<List<Integer>, Integer> f : filling.entrySet()) {
                boolean sameRow = e.getKey().get(0).equals(f.getKey().get(0));
                boolean sameColumn = e.getKey().get(1).equals(f.getKey().get(1));
                if (sameRow && e.getKey().get(1) < f.getKey().get(1)
                        && e.getValue() > f.getValue()) {
                    return false;
                }
                if (sameColumn && e.getKey().get(0) < f.getKey().get(0)
                        && e.getValue() >= f.getValue()) {
                    return false;
                }
            }
        }
        return true;
    }

    private static List<Integer> slide(Map<List<Integer>, Integer> filling, int r, int c) {
        while (true) {
            Integer right = filling.get(List.of(r, c + 1));
            Integer below = filling.get(List.of(r + 1, c));
            if (right == null && below == null) {
                return List.of(r, c);
            }
            if (right == null || below != null && below <= right) {
                filling.put(List.of(r, c), filling.remove(List.of(r + 1, c)));
                r++;
            } else {
                filling.put(List.of(r, c), filling.remove(List.of(r, c + 1)));
                c++;
            }
        }
    }

    private static List<List<Integer>> asRows(Map<List<Integer>, Integer> filling) {
        List<List<Integer>> rows = new ArrayList<>();
        for (int r = 0; filling.containsKey(List.of(r, 0)); r++) {
            rows.add(new ArrayList<>());
            for (int c = 0; filling.containsKey(List.of(r, c)); c++) {
                rows.get(r).add(filling.get(List.of(r, c)));
            }
        }
        return rows;
    }

    private static List<List<Integer>> othersInHook(List<List<Integer>> boxes,
            List<Integer> box) {
        List<List<Integer>> right = new ArrayList<>();
        List<List<Integer>> below = new ArrayList<>();
        for (List<Integer> b : boxes) {
            if (b.get(0).equals(box.get(0)) && b.get(1) > box.get(1)) {
                right.add(b);
            }
            if (b.get(1).equals(box.get(1)) && b.get(0) > box.get(0)) {
                below.add(b);
            }
        }
        right.addAll(below);
        return right;
    }

    private static int[] putByRows(List<List<Integer>> t, int x) {
        for (int r = 0; ; r++) {
            if (r == t.size()) {
                t.add(new ArrayList<>());
            }
            List<Integer> row = t.get(r);
            int c = 0;
            while (c < row.size() && row.get(c) <= x) {
                c++;
            }
            if (c == row.size()) {
                row.add(x);
                return new int[] {r, c};
            }
            x = row.set(c, x);
        }
    }

    private static int[] putByColumns(List<List<Integer>> t, int x) {
        for (int c = 0; ; c++) {
            int r = 0;
            while (letterAt(t, r, c) != 0 && letterAt(t, r, c) < x) {
                r++;
            }
            int old = letterAt(t, r, c);
            setBox(t, r, c, x);
            if (old == 0) {
                return new int[] {r, c};
            }
            x = old;
        }
    }

    private static int letterAt(List<List<Integer>> t, int r, int c) {
        return r < 0 || r >= t.size() || c < 0 || c >= t.get(r).size() ? 0 : t.get(r).get(c);
    }

    private static void setBox(List<List<Integer>> t, int r, int c, int v) {
        if (r == t.size()) {
            t.add(new ArrayList<>());
        }
        if (c == t.get(r).size()) {
            t.get(r).add(v);
        } else {
            t.get(r).set(c, v);
        }
    }

    private static List<List<Integer>> deepCopy(List<List<Integer>> t) {
        List<List<Integer>> copy = new ArrayList<>();
        for (List<Integer> row : t) {
            copy.add(new ArrayList<>(row));
        }
        return copy;
    }
}
