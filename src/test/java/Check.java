/** What the tests share: they note every answer that is not the one due, and end with 1 then. */
final class Check {
    private static int wrong;
    private static int looked;
    private static String sentence = "";

    private Check() {}

    interface Call {
        void run();
    }

    interface CallOn {
        void on(Bench b);
    }

    interface QuestionTo {
        boolean on(Bench b);
    }

    /** A bench as a call finds it; made anew each time, so that the calls on it stay few. */
    interface Scene {
        Bench made();
    }

    /** What follows holds the class to this sentence of the document, and says so if it fails. */
    static void sentence(String words) {
        sentence = "[" + words + "] ";
    }

    private static void note(String call, Object got, Object due) {
        wrong++;
        System.out.println(sentence + call + " answered " + got + ", due is " + due);
    }

    static void same(String call, long got, long due) {
        looked++;
        if (got != due) {
            note(call, got, due);
        }
    }

    static void isTrue(String call, boolean got) {
        same(call, got ? 1 : 0, 1);
    }

    static void isFalse(String call, boolean got) {
        same(call, got ? 1 : 0, 0);
    }

    static void text(String call, String got, String due) {
        looked++;
        if (!got.equals(due)) {
            note(call, got, due);
        }
    }

    static void raises(String call, Class<? extends RuntimeException> due, Call run) {
        text(call, thrownBy(run), due.getSimpleName());
    }

    static void raisesNothing(String call, Call run) {
        text(call, thrownBy(run), "nothing thrown");
    }

    private static String thrownBy(Call run) {
        try {
            run.run();
            return "nothing thrown";
        } catch (RuntimeException e) {
            return e.getClass().getSimpleName();
        }
    }

    /** The call throws what is due, and the bench is as if it had not been made. */
    static void refuses(String call, Class<? extends RuntimeException> due, Scene scene,
            CallOn run) {
        Bench b = scene.made();
        raises(call, due, () -> run.on(b));
        text(call + ": nothing changed", all(b), all(scene.made()));
    }

    /** The call answers false, and the bench is as if it had not been made. */
    static void saysNo(String call, Scene scene, QuestionTo run) {
        Bench b = scene.made();
        isFalse(call, run.on(b));
        text(call + ": nothing changed", all(b), all(scene.made()));
    }

    /** The call changes the bench in nothing, whatever it answers. */
    static void changesNothing(String call, Scene scene, CallOn run) {
        Bench b = scene.made();
        raisesNothing(call, () -> run.on(b));
        text(call + ": nothing changed", all(b), all(scene.made()));
    }

    static void end() {
        System.out.println(looked + " answers looked at, " + wrong + " not as due");
        if (wrong != 0 || looked == 0) {
            System.exit(1);
        }
    }

    /** The long whose bytes are the lengths of the rows. */
    static long bytes(int... rows) {
        long w = 0;
        for (int i = 0; i < rows.length; i++) {
            w |= (long) rows[i] << (8 * i);
        }
        return w;
    }

    static Bench benchWith(int[]... shapes) {
        Bench b = new Bench();
        for (int i = 0; i < shapes.length; i++) {
            isTrue("shape of slot " + i, b.shape(i, bytes(shapes[i])));
        }
        return b;
    }

    /** A bench on which every slot, both words, P and Q have something that could be lost. */
    static Bench busy() {
        Bench b = benchWith(of(4, 2, 1), of(3, 3), of(5), of(2, 1, 1, 1, 1, 1, 1, 1));
        spell(b, 0, 3, 1, 2);
        spell(b, 1, 2, 2, 1, 5, 3);
        b.insert(1, true);
        return b;
    }

    static int[] of(int... numbers) {
        return numbers;
    }

    static void spell(Face b, int word, int... letters) {
        isTrue("cut", b.cut(word, 0));
        for (int v : letters) {
            isTrue("letter " + v, b.letter(word, v));
        }
    }

    static String word(Face b, int word) {
        StringBuilder s = new StringBuilder();
        int length = b.length(word);
        for (int i = 0; i < length; i++) {
            s.append(i > 0 ? " " : "").append(b.at(word, i));
        }
        return s.toString();
    }

    /** The lengths of a slot's rows but for the zeros at the end. */
    static String slot(Face b, int slot) {
        StringBuilder s = new StringBuilder();
        int end = 0;
        for (int i = 0; i < 8; i++) {
            int length = b.row(slot, i);
            s.append(i > 0 ? " " : "").append(length);
            end = length != 0 ? s.length() : end;
        }
        return s.substring(0, end);
    }

    /** P or Q, its rows parted by "/". */
    static String tableau(Face b, boolean q) {
        StringBuilder s = new StringBuilder();
        int first = b.entry(q, 0, 0);
        for (int r = 0; first > 0; r++) {
            s.append(r > 0 ? "/" : "").append(first);
            int next = b.entry(q, r, 1);
            for (int c = 2; next > 0; c++) {
                s.append(" ").append(next);
                next = b.entry(q, r, c);
            }
            first = b.entry(q, r + 1, 0);
        }
        return s.toString();
    }

    /**
     * All that can be asked of a bench. Whether Q is away or without boxes only recover tells, so
     * word 1 may be another one afterwards.
     */
    static String all(Face b) {
        StringBuilder s = new StringBuilder();
        for (int i = 0; i < 4; i++) {
            s.append("slot ").append(slot(b, i)).append("; ");
        }
        for (int i = 0; i < 2; i++) {
            s.append("word ").append(word(b, i)).append("; ");
        }
        s.append("P ").append(tableau(b, false)).append("; Q ").append(tableau(b, true));
        return s.append("; recovered ").append(recovered(b)).toString();
    }

    private static String recovered(Face b) {
        try {
            b.recover(1);
            return word(b, 1);
        } catch (RuntimeException e) {
            return e.getClass().getSimpleName();
        }
    }
}
