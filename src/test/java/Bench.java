/** What the tests share: texts fed as numbers, answers compared, wrong ones counted. */
final class Bench {
    static final int NONE = ProofBench.NONE;
    static final int SPENT = -2;

    private int wrong;
    private int asked;

    /** An object of which the theory is told already. */
    ProofBench with(String theory) {
        ProofBench x = new ProofBench();
        if (theory(x, theory) == NONE) {
            wrong++;
            System.out.println("no theory: " + theory + " " + fault(x));
        }
        return x;
    }

    void due(String call, long got, long want) {
        asked++;
        if (got != want) {
            wrong++;
            System.out.println(call + " answered " + got + ", due is " + want);
        }
    }

    void due(String call, String got, String want) {
        asked++;
        if (!got.equals(want)) {
            wrong++;
            System.out.println(call + " answered " + got + ", due is " + want);
        }
    }

    void finish(String name) {
        System.out.println(name + ": " + asked + " answers, " + wrong + " wrong");
        if (wrong != 0) {
            System.exit(1);
        }
    }

    /** Puts a text on the tape, behind what is there. */
    static void put(ProofBench x, String text) {
        int before = x.about(5);
        for (int i = 0; i < text.length(); i += 20) {
            int[] n = new int[5];
            for (int k = 0; k < 20; k++) {
                int sign = i + k < text.length() ? text.charAt(i + k) : ' ';
                n[k / 4] |= (sign & 255) << 24 - 8 * (k % 4);
            }
            x.feed(n[0], n[1], n[2], n[3], n[4]);
        }
        x.end(before + text.length());
    }

    static int theory(ProofBench x, String text) {
        put(x, text);
        return x.theory();
    }

    static int prove(ProofBench x, String text) {
        put(x, text);
        return x.prove();
    }

    static int read(ProofBench x, String text) {
        put(x, text);
        return x.read();
    }

    static int rewrite(ProofBench x, String text) {
        put(x, text);
        return x.rewrite();
    }

    /** Kind and place of the latest fault. */
    static String fault(ProofBench x) {
        return x.fault(0) + " at " + x.fault(1);
    }

    /** Number of the step that was refused, and its cause. */
    static String refused(ProofBench x) {
        return x.refused(0) + " for " + x.refused(1);
    }

    static String read(ProofBench x) {
        StringBuilder pieces = new StringBuilder();
        for (int i = 0; x.piece(i) != NONE; i++) {
            pieces.append(i == 0 ? "" : " ").append(x.piece(i));
        }
        return pieces.toString();
    }

    static String line(ProofBench x, int step) {
        StringBuilder pieces = new StringBuilder();
        for (int i = 0; x.line(step, i) != NONE; i++) {
            pieces.append(i == 0 ? "" : " ").append(x.line(step, i));
        }
        return pieces.toString();
    }

    /** The rows of all that a step assumes, parted by commas. */
    static String assumed(ProofBench x, int step) {
        StringBuilder rows = new StringBuilder();
        for (int n = 0; x.assumed(step, n, 0) != NONE; n++) {
            rows.append(n == 0 ? "" : ", ");
            for (int i = 0; x.assumed(step, n, i) != NONE; i++) {
                rows.append(i == 0 ? "" : " ").append(x.assumed(step, n, i));
            }
        }
        return rows.toString();
    }

    static String theorem(ProofBench x, int theorem) {
        StringBuilder pieces = new StringBuilder();
        for (int i = 0; x.theorem(theorem, i) != NONE; i++) {
            pieces.append(i == 0 ? "" : " ").append(x.theorem(theorem, i));
        }
        return pieces.toString();
    }

    static String normal(ProofBench x) {
        StringBuilder pieces = new StringBuilder();
        for (int i = 0; x.normal(i) != NONE; i++) {
            pieces.append(i == 0 ? "" : " ").append(x.normal(i));
        }
        return pieces.toString();
    }

    static String repeat(String text, int times) {
        return text.repeat(times);
    }

    /** A formula of so many pieces, 1 or more: and-s over one false more, as flat as can be. */
    static String wide(int falses) {
        if (falses == 1) {
            return "false";
        }
        int half = falses / 2;
        return "and " + wide(falses - half) + " " + wide(half);
    }
}
