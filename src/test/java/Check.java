/** What the tests share: they note every answer that is not the one due, and end with 1 then. */
final class Check {
    private static int wrong;
    private static int looked;

    private Check() {}

    interface Call {
        void run();
    }

    static void same(String call, long got, long due) {
        looked++;
        if (got != due) {
            wrong++;
            System.out.println(call + " answered " + got + ", due is " + due);
        }
    }

    static void isTrue(String call, boolean got) {
        same(call, got ? 1 : 0, 1);
    }

    static void isFalse(String call, boolean got) {
        same(call, got ? 1 : 0, 0);
    }

    static void text(String call, String got, String due) {
        looked++;
        if (!got.equals(due)) {
            wrong++;
            System.out.println(call + " answered " + got + ", due is " + due);
        }
    }

    static void raises(String call, Class<? extends RuntimeException> due, Call run) {
        text(call, thrownBy(run), due.getSimpleName());
    }

    private static String thrownBy(Call run) {
        try {
            run.run();
            return "nothing thrown";
        } catch (RuntimeException e) {
            return e.getClass().getSimpleName();
        }
    }

    static void end() {
        System.out.println(looked + " answers looked at, " + wrong + " not as due");
        if (wrong != 0 || looked == 0) {
            System.exit(1);
        }
    }

    /** The long whose bytes are the lengths of the rows. */
    static long bytes(int... rows) {
        long w = 0;
        for (int i = 0; i < rows.length; i++) {
            w |= (long) rows[i] << (8 * i);
        }
        return w;
    }

    static TableauBench benchWith(int[]... shapes) {
        TableauBench b = new TableauBench();
        for (int i = 0; i < shapes.length; i++) {
            isTrue("shape of slot " + i, b.shape(i, bytes(shapes[i])));
        }
        return b;
    }

    static int[] of(int... numbers) {
        return numbers;
    }

    static void spell(TableauBench b, int word, int... letters) {
        isTrue("cut", b.cut(word, 0));
        for (int v : letters) {
            isTrue("letter " + v, b.letter(word, v));
        }
    }

    static String word(TableauBench b, int word) {
        StringBuilder s = new StringBuilder();
        for (int i = 0; i < b.length(word); i++) {
            s.append(i > 0 ? " " : "").append(b.at(word, i));
        }
        return s.toString();
    }

    static String slot(TableauBench b, int slot) {
        StringBuilder s = new StringBuilder();
        for (int i = 0; b.row(slot, i) > 0; i++) {
            s.append(i > 0 ? " " : "").append(b.row(slot, i));
        }
        return s.toString();
    }

    /** P or Q, its rows parted by "/". */
    static String tableau(TableauBench b, boolean q) {
        StringBuilder s = new StringBuilder();
        for (int r = 0; b.entry(q, r, 0) > 0; r++) {
            s.append(r > 0 ? "/" : "");
            for (int c = 0; b.entry(q, r, c) > 0; c++) {
                s.append(c > 0 ? " " : "").append(b.entry(q, r, c));
            }
        }
        return s.toString();
    }

    /** All that can be asked of a bench without changing it. */
    static String all(TableauBench b) {
        StringBuilder s = new StringBuilder();
        for (int i = 0; i < 4; i++) {
            s.append("slot ").append(slot(b, i)).append("; ");
        }
        for (int i = 0; i < 2; i++) {
            s.append("word ").append(word(b, i)).append("; ");
        }
        return s.append("P ").append(tableau(b, false)).append("; Q ").append(tableau(b, true))
                .toString();
    }
}
