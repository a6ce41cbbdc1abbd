/** Any calls in any state: none throws, and each answers as the ones beside it. */
public final class AnyCallsTest {
    private static final Bench bench = new Bench();
    private static final String[] WORDS = {"rel", "fun", "axiom", "false", "not", "and", "or", "imp", "all", "some", "same",
        "assume", "theorem", "both", "left", "right", "orleft", "orright", "case", "apply", "deduce", "general", "special",
        "exist", "open", "replace", "absurd", "classic", "p", "q", "f", "c", "x", "y", "a", "b", ";", ";", ";", "0", "1", "2",
        "3", "12345", "toolongaword", "_"};
    private static final int[] WILD = {Integer.MIN_VALUE, -1, 0, 1, 2, 3, 4, 5, 11, 12, 13, 39, 40, 41, 4095, 4096,
        Integer.MAX_VALUE};
    private static long seed = 20261118;

    public static void main(String[] args) {
        for (int run = 0; run < 1000; run++) {
            anyCalls();
        }
        allCallsOfOneObject();
        bench.finish("AnyCallsTest");
    }

    /** Numbers that are the same in each run of the test. */
    private static int next(int bound) {
        seed = seed * 6364136223846793005L + 1442695040888963407L;
        return (int) ((seed >>> 33) % bound);
    }

    private static int wild() {
        return next(3) == 0 ? WILD[next(WILD.length)] : next(6);
    }

    private static void anyCalls() {
        ProofBench x = new ProofBench();
        // Each makes thirteen calls at most, what comes behind them fewer than 40: an object is used for 512 at most.
        for (int turn = 0; turn < 36; turn++) {
            anyCall(x);
        }
        sumsAreRight(x);
    }

    private static void anyCall(ProofBench x) {
        switch (next(12)) {
            case 0:
                x.feed(next(1 << 30), next(1 << 30) - (1 << 29), wild(), wild(), wild());
                x.end(wild());
                break;
            case 1:
                Bench.put(x, anyText());
                break;
            case 2:
                Bench.put(x, "rel p 1;rel q " + next(3) + ";fun f 1;fun c 0;axiom a all x same f x "
                        + (next(2) == 0 ? "x;" : "c;") + "axiom b some x p x;");
                x.theory();
                break;
            case 3:
                Bench.put(x, "assume p x;same c;axiom b;" + anyText());
                x.prove();
                break;
            case 4:
                Bench.put(x, "imp p x and p f f y all z p z");
                x.read();
                break;
            case 5:
                Bench.put(x, "f f f c");
                x.rewrite();
                break;
            default:
                anyQuestion(x);
                break;
        }
    }

    private static String anyText() {
        StringBuilder text = new StringBuilder();
        for (int i = next(12); i > 0; i--) {
            text.append(WORDS[next(WORDS.length)]).append(next(5) == 0 ? "" : " ");
        }
        return text.toString();
    }

    private static void anyQuestion(ProofBench x) {
        switch (next(10)) {
            case 0:
                x.theory();
                x.fault(wild());
                break;
            case 1:
                x.prove();
                x.refused(wild());
                x.step(wild(), wild());
                x.line(wild(), wild());
                break;
            case 2:
                x.assumed(wild(), wild(), wild());
                x.needs(wild());
                x.keep();
                break;
            case 3:
                x.theorem(wild(), wild());
                x.leans(wild(), wild());
                break;
            case 4:
                x.drop();
                break;
            case 5:
                x.read();
                x.piece(wild());
                x.alike();
                break;
            case 6:
                x.letters();
                x.table();
                x.row();
                break;
            case 7:
                x.rewrite();
                x.normal(wild());
                x.rules();
                break;
            case 8:
                x.models(wild());
                x.hold(wild());
                x.holds(wild(), wild());
                x.counter(wild());
                break;
            default:
                x.image(wild());
                x.back(wild());
                x.about(wild());
                break;
        }
    }

    /** What one call tells agrees with what others tell. */
    private static void sumsAreRight(ProofBench x) {
        x.read();
        bench.due("tape after read", x.about(5), 0);
        Bench.put(x, "imp same x y same y x");
        bench.due("read", x.read(), x.about(6));
        bench.due("row", x.row(), 2);
        bench.due("counter of what holds in all", x.counter(2), x.models(2) == -2 ? -2 : -1);
        Bench.put(x, "same z;");
        bench.due("prove", x.prove(), 1);
        bench.due("about(3)", x.about(3), 1);
        bench.due("keep", x.keep(), -1);
        Bench.put(x, "same z;general 0 z;");
        x.prove();
        int before = x.about(4);
        bench.due("keep", x.keep(), before < 12 ? before : -1);
    }

    private static void allCallsOfOneObject() {
        ProofBench x = bench.with("rel p 1;rel q 1;axiom a some x p x;axiom b all x imp p x q x;");
        for (int i = 0; i < 30; i++) {
            bench.due("prove " + i, Bench.prove(x, "assume p u;axiom b;special 1 u;apply 2 0;exist 3 u some x q x;axiom a;open 5 4 u;"), 7);
            bench.due("assumes", x.step(6, 1), 0);
            bench.due("line", Bench.line(x, 6), "5 11 40");
        }
    }
}
