/** Promises 15, 16 and 31 (what 6): formulas that are read, and their rows of pieces. */
public final class FormulaTest {
    private static final Bench bench = new Bench();
    private static final String THEORY = "rel n 0;rel p 1;rel q 2;fun c 0;fun f 1;fun g 2;";

    public static void main(String[] args) {
        rows();
        boundAndFree();
        faults();
        pieces();
        piecesOfNots();
        depth();
        nested();
        freeOnes();
        piecesOfFormulasThatAreNone();
        bench.finish("FormulaTest");
    }

    private static void row(String text, String pieces) {
        ProofBench x = bench.with(THEORY);
        bench.due("read " + text, Bench.read(x, text), pieces.split(" ").length);
        bench.due("pieces of " + text, Bench.read(x), pieces);
        bench.due("about(6) of " + text, x.about(6), pieces.split(" ").length);
        bench.due("fault of " + text, Bench.fault(x), "0 at -1");
        bench.due("tape after " + text, x.about(5), 0);
        bench.due("piece(-1)", x.piece(-1), -1);
        bench.due("piece(MIN)", x.piece(Integer.MIN_VALUE), -1);
        bench.due("piece(MAX)", x.piece(Integer.MAX_VALUE), -1);
        bench.due("piece behind all", x.piece(pieces.split(" ").length), -1);
    }

    private static void fault(String text, int kind, int place) {
        ProofBench x = bench.with(THEORY);
        Bench.read(x, "imp n n");
        bench.due("read " + text, Bench.read(x, text), -1);
        bench.due("fault of " + text, Bench.fault(x), kind + " at " + place);
        bench.due("none is read after " + text, Bench.read(x), "");
        bench.due("about(6) after " + text, x.about(6), 0);
        bench.due("tape after " + text, x.about(5), 0);
        bench.due("letters after " + text, x.letters(), -1);
    }

    private static void rows() {
        row("false", "0");
        row("and false n", "1 0 10");
        row("or n false", "2 10 0");
        row("imp n n", "3 10 10");
        row("not n", "3 10 0");
        row("not not false", "3 3 0 0 0");
        row("and not n not false", "1 3 10 0 3 0 0");
        row("all x p x", "4 11 40");
        row("some x p x", "5 11 40");
        row("all x false", "4 0");
        row("same c f c", "6 20 21 20");
        row("q g c f c c", "12 22 20 21 20 20");
        row(" \n p\nc ", "11 20");
        row("and n n", "1 10 10");
    }

    private static void boundAndFree() {
        row("all x some y q x y", "4 5 12 41 40");
        row("all x some x q x x", "4 5 12 40 40");
        row("all x and p x some y q x y", "4 1 11 40 5 12 41 40");
        row("all x and some x p x p x", "4 1 5 11 40 11 40");
        row("and all x p x p x", "1 4 11 40 11 60");
        row("and p x all x p x", "1 11 60 4 11 40");
        row("all x q x y", "4 12 40 60");
        row("all x all y all z all u all v and q x y and q z u p v", "4 4 4 4 4 1 12 44 43 1 12 42 41 11 40");
        row("q x y", "12 60 61");
        row("and q y x q x y", "1 12 60 61 12 61 60");
        row("same a b", "6 60 61");
        row("all y same g x y g y x", "4 6 22 60 40 22 40 60");
        row("all nn p nn", "4 11 40");
    }

    private static void faults() {
        fault("", 2, 0);
        fault("   ", 2, 3);
        fault("x", 2, 0);
        fault("c", 2, 0);
        fault("false;", 2, 5);
        fault("false n", 2, 6);
        fault("false _", 1, 6);
        fault("n x", 2, 2);
        fault("p", 2, 1);
        fault("p n", 2, 2);
        fault("p false", 2, 2);
        fault("q c", 2, 3);
        fault("rel z 0;", 2, 0);
        fault("assume false;", 2, 0);
        fault("all c p c", 2, 4);
        fault("all n p c", 2, 4);
        fault("same f c", 2, 8);
        fault("p 1", 2, 2);
        fault("p lettersix", 1, 2);
        fault("not", 2, 3);
        fault("imp n", 2, 5);
        fault("imp n ;", 2, 6);
    }

    private static void pieces() {
        row(Bench.wide(20), rowOfWide(20));
        row("all x " + Bench.wide(20), "4 " + rowOfWide(20));
        row("not " + Bench.wide(19), "3 " + rowOfWide(19) + " 0");
        row("p " + Bench.repeat("f ", 11) + "c", "11 " + Bench.repeat("21 ", 11) + "20");
        int behind = Bench.wide(21).length();
        fault(Bench.wide(21), 2, behind - 5);
        fault(Bench.wide(21) + " _", 2, behind - 5);
        fault("all x and false " + Bench.wide(20), 2, 16 + Bench.wide(20).length() - 11);
        String full = "and " + Bench.wide(19) + " ";
        row(full + "n", "1 " + rowOfWide(19) + " 10");
        String nearlyFull = "and n and " + Bench.wide(18) + " ";
        row(nearlyFull + "p c", "1 10 1 " + rowOfWide(18) + " 11 20");
        fault(nearlyFull + "q c c", 2, nearlyFull.length() + 4);
    }

    /** A not is two pieces where it stands, whatever stands inside it and behind it. */
    private static void piecesOfNots() {
        row("not not " + Bench.wide(18), "3 3 " + rowOfWide(18) + " 0 0");
        row("and not p c not " + Bench.wide(17), "1 3 11 20 0 3 " + rowOfWide(17) + " 0");
        row("not and not n " + Bench.wide(17), "3 1 3 10 0 " + rowOfWide(17) + " 0");
        faultAtLast("not " + Bench.wide(20), "");
        faultAtLast("not " + Bench.wide(20), " _");
        faultAtLast("not " + Bench.wide(20), " false");
        faultAtLast("not " + Bench.wide(20).replaceAll("false$", "and"), " false false");
        faultAtLast("and n not " + Bench.wide(19), "");
        faultAtLast("not not " + Bench.wide(19), "");
        faultAtLast("not and n not " + Bench.wide(18), "");
        faultAtLast("and not n not " + Bench.wide(18), "");
        faultAtLast("not and not false not " + Bench.wide(17), "");
        // A not that comes as the 39th piece is the 40th, too; one that comes as the 40th can't stand.
        faultAtLast("and " + Bench.wide(19) + " not n", "");
        faultAtLast("not and " + Bench.wide(18) + " not n", "");
        faultAtLast("and and n p c and " + Bench.wide(17) + " not", " n");
        faultAtLast("not and p c and " + Bench.wide(17) + " not", " n");
        faultAtLast("not and p c and " + Bench.wide(17) + " not", " _");
        // What stands ahead of the 41st one comes first.
        fault("not and same _ x " + Bench.wide(20), 1, 13);
        fault("not and q x rel " + Bench.wide(20), 2, 12);
    }

    /** The last word of the text is the 41st piece. */
    private static void faultAtLast(String text, String behind) {
        fault(text + behind, 2, text.lastIndexOf(' ') + 1);
    }

    private static String rowOfWide(int falses) {
        return Bench.wide(falses).replace("and", "1").replace("false", "0");
    }

    private static void depth() {
        row(Bench.repeat("or n ", 12) + "n", Bench.repeat("2 10 ", 12) + "10");
        fault(Bench.repeat("or n ", 13) + "n", 2, 12 * 5 + 3);
        row(Bench.repeat("or n ", 11) + "p c", Bench.repeat("2 10 ", 11) + "11 20");
        row("p " + Bench.repeat("f ", 11) + "x", "11 " + Bench.repeat("21 ", 11) + "60");
        fault("p " + Bench.repeat("f ", 12) + "x", 2, 2 + 24);
        row(Bench.repeat("not ", 12) + "n", Bench.repeat("3 ", 12) + "10" + Bench.repeat(" 0", 12));
        // The f and the false of the last not would both stand too deep; the not comes first.
        fault(Bench.repeat("not ", 13) + "n", 2, 12 * 4);
        fault(Bench.repeat("not ", 12) + "p c", 2, 12 * 4 + 2);
        fault(Bench.repeat("not ", 12) + "all x false", 2, 12 * 4 + 6);
        fault(Bench.repeat("or n ", 12) + "_", 1, 60);
        fault(Bench.repeat("or n ", 12) + "or _ n", 1, 63);
    }

    private static void nested() {
        row("all a some b all h some d all e p e", "4 5 4 5 4 11 40");
        row("all a some b all h some d and all e p a all u p a",
                "4 5 4 5 1 4 11 44 4 11 44");
        fault("all a some b all h some d all e some u p e", 2, 32);
        fault("all a some b all h some d and n all e not all u p e", 2, 42);
        fault("all a all b all d all e all h all 1 n", 2, 30);
    }

    private static void freeOnes() {
        String twelve = "and same a b and same d e and same h i and same j k and same l m same o r";
        row(twelve, "1 6 60 61 1 6 62 63 1 6 64 65 1 6 66 67 1 6 68 69 6 70 71");
        row("and p a " + twelve, "1 11 60 1 6 60 61 1 6 62 63 1 6 64 65 1 6 66 67 1 6 68 69 6 70 71");
        fault("and " + twelve + " same a s", 2, twelve.length() + 5 + 7);
        fault("and " + twelve + " same s", 2, twelve.length() + 5 + 5);
        fault("and " + twelve + " and n all s q s t", 2, twelve.length() + 5 + 16);
    }

    private static void piecesOfFormulasThatAreNone() {
        ProofBench x = new ProofBench();
        bench.due("piece(0) of a new one", x.piece(0), -1);
        bench.due("piece(-1) of a new one", x.piece(-1), -1);
        Bench.read(x, "same x x");
        Bench.prove(x, "assume false;");
        Bench.rewrite(x, "y");
        bench.due("a proof and a term change nothing of it", Bench.read(x), "6 60 60");
        Bench.read(x, "same y x");
        bench.due("free ones are numbered anew", Bench.read(x), "6 60 61");
    }
}
