/** Promises 11 to 14, 29 and 30: theorems kept, told, dropped, and their images. */
public final class TheoremTest {
    private static final Bench bench = new Bench();
    private static final String THEORY =
            "rel n 0;rel p 1;fun c 0;axiom a n;axiom b all x p x;axiom d not n;axiom e imp n n;";

    public static void main(String[] args) {
        kept();
        notKept();
        boundOnesAreNotFree();
        twelveAtMost();
        leans();
        leansThroughOthers();
        dropped();
        images();
        imagesAreNotChanged();
        boxesThatAreNone();
        wildArguments();
        bench.finish("TheoremTest");
    }

    private static void kept() {
        ProofBench x = bench.with(THEORY);
        Bench.prove(x, "axiom b;special 0 c;");
        bench.due("keep", x.keep(), 0);
        bench.due("theorem", Bench.theorem(x, 0), "11 20");
        bench.due("about(4)", x.about(4), 1);
        bench.due("about(3): the proof stays", x.about(3), 2);
        bench.due("keep again", x.keep(), 1);
        bench.due("theorem", Bench.theorem(x, 1), "11 20");
        Bench.prove(x, "assume p y;deduce 0 p y;general 1 y;");
        bench.due("keep", x.keep(), 2);
        bench.due("theorem", Bench.theorem(x, 2), "4 3 11 40 11 40");
        bench.due("theorem 0 still", Bench.theorem(x, 0), "11 20");
        bench.due("theorem of a step", Bench.prove(x, "theorem 2;special 0 c;theorem 0;apply 1 2;"), 4);
        bench.due("its line", Bench.line(x, 0), "4 3 11 40 11 40");
        bench.due("line 3", Bench.line(x, 3), "11 20");
        bench.due("keep", x.keep(), 3);
    }

    private static void notKept() {
        ProofBench x = bench.with(THEORY);
        bench.due("keep without a proof", x.keep(), -1);
        Bench.prove(x, "");
        bench.due("keep of an empty proof", x.keep(), -1);
        Bench.prove(x, "axiom a;left 0;");
        bench.due("keep after a refused step", x.keep(), -1);
        Bench.prove(x, "left 0;");
        bench.due("keep after a refused first step", x.keep(), -1);
        Bench.prove(x, "assume n;");
        bench.due("keep of what assumes something", x.keep(), -1);
        Bench.prove(x, "same y;");
        bench.due("keep of a free X", x.keep(), -1);
        Bench.prove(x, "axiom b;special 0 y;axiom a;both 2 1;");
        bench.due("keep of a free X at the end", x.keep(), -1);
        bench.due("about(4)", x.about(4), 0);
        bench.due("about(3)", x.about(3), 4);
        bench.due("theorem", x.theorem(0, 0), -1);
        Bench.prove(x, "axiom a;assume n;deduce 1 n;");
        bench.due("keep", x.keep(), 0);
        bench.due("fault", Bench.prove(x, "assume"), -1);
        bench.due("keep of the proof that stays", x.keep(), 1);
        bench.due("theorem", Bench.theorem(x, 1), "3 10 10");
    }

    /** No bound one is a free one, however many pieces there are and wherever it stands; each free one is, by any number. */
    private static void boundOnesAreNotFree() {
        String five = "all a all b all d all e all h and ";
        for (int falses = 1; falses <= 16; falses++) {
            closedIsKept(five + "p a " + Bench.wide(falses), 2 * falses + 7);
            closedIsKept(five + Bench.wide(falses) + " p h", 2 * falses + 7);
            closedIsKept(five + "q a b " + Bench.wide(falses), 2 * falses + 8);
            closedIsKept(five + Bench.wide(falses) + " q h a", 2 * falses + 8);
        }
        ProofBench x = new ProofBench();
        String[] names = {"b", "d", "e", "f", "g", "h", "i", "j", "k", "l", "m", "o"};
        StringBuilder text = new StringBuilder();
        for (int v = 0; v < names.length; v++) {
            text.append("same ").append(names[v]).append(';');
            bench.due("prove", Bench.prove(x, text.toString()), v + 1);
            bench.due("piece of the free one " + v, x.line(v, 1), 60 + v);
            bench.due("keep of the free one " + v, x.keep(), -1);
            bench.due("prove", Bench.prove(x, text + "general " + v + " " + names[v] + ";"), v + 2);
            bench.due("keep of the bound one " + v, x.keep(), v);
        }
        x = bench.with("rel q 2;fun c 0;axiom k q c c;");
        for (String free : new String[] {"q c u", "q u c", "all x and q c u q x x", "and q c u " + Bench.wide(16)}) {
            bench.due("prove", Bench.prove(x, "axiom k;orleft 0 " + free + ";"), 2);
            bench.due("keep of a free one in " + free, x.keep(), -1);
            bench.due("prove", Bench.prove(x, "axiom k;orleft 0 " + free.replace("u", "c") + ";"), 2);
            bench.due("keep without one", x.keep(), x.about(4) - 1);
        }
    }

    private static void closedIsKept(String formula, int pieces) {
        ProofBench x = bench.with("rel n 0;rel p 1;rel q 2;axiom k " + formula + ";");
        bench.due("prove by " + formula, Bench.prove(x, "axiom k;"), 1);
        bench.due("pieces of " + formula, x.step(0, 0), pieces);
        bench.due("keep of " + formula, x.keep(), 0);
        bench.due("its last piece", x.theorem(0, pieces - 1), x.line(0, pieces - 1));
    }

    private static void twelveAtMost() {
        ProofBench x = bench.with(THEORY);
        Bench.prove(x, "axiom a;");
        for (int i = 0; i < 12; i++) {
            bench.due("keep", x.keep(), i);
        }
        bench.due("keep of a 13th", x.keep(), -1);
        bench.due("about(4)", x.about(4), 12);
        bench.due("theorem 11", Bench.theorem(x, 11), "10");
        bench.due("proof", Bench.prove(x, "theorem 11;theorem 12;"), 1);
        bench.due("refused", Bench.refused(x), "1 for 1");
        bench.due("leans", x.step(0, 3), 1 << 11);
        bench.due("drop", x.drop(), 11);
        Bench.prove(x, "theorem 10;");
        bench.due("keep", x.keep(), 11);
        bench.due("leans", x.leans(11, 1), 1 << 10);
    }

    private static void leans() {
        ProofBench x = bench.with(THEORY);
        Bench.prove(x, "axiom b;axiom e;both 0 1;");
        x.keep();
        bench.due("leans on axioms", x.leans(0, 0), 2 + 8);
        bench.due("leans on theorems", x.leans(0, 1), 0);
        bench.due("leans on axioms through all", x.leans(0, 2), 2 + 8);
        Bench.prove(x, "axiom d;axiom a;apply 0 1;absurd 2 all x p x;");
        x.keep();
        bench.due("leans on axioms", x.leans(1, 0), 1 + 4);
        // What the last step does not need is not leant on.
        Bench.prove(x, "axiom d;theorem 0;axiom a;same c;");
        x.keep();
        bench.due("leans on axioms", x.leans(2, 0), 0);
        bench.due("leans on theorems", x.leans(2, 1), 0);
        bench.due("leans on axioms through all", x.leans(2, 2), 0);
        // What is left out is leant on no less.
        Bench.prove(x, "assume n;axiom e;apply 1 0;deduce 2 n;");
        x.keep();
        bench.due("leans on axioms", x.leans(3, 0), 8);
    }

    private static void leansThroughOthers() {
        ProofBench x = bench.with(THEORY);
        Bench.prove(x, "axiom a;");
        x.keep();
        Bench.prove(x, "theorem 0;axiom b;both 0 1;");
        x.keep();
        Bench.prove(x, "theorem 1;left 0;axiom e;both 1 2;");
        x.keep();
        bench.due("axioms of 1", x.leans(1, 0), 2);
        bench.due("theorems of 1", x.leans(1, 1), 1);
        bench.due("axioms of 1 through all", x.leans(1, 2), 3);
        bench.due("axioms of 2", x.leans(2, 0), 8);
        bench.due("theorems of 2", x.leans(2, 1), 2);
        bench.due("axioms of 2 through all", x.leans(2, 2), 11);
    }

    private static void dropped() {
        ProofBench x = bench.with(THEORY);
        Bench.prove(x, "axiom a;");
        bench.due("drop of none", x.drop(), -1);
        bench.due("about(3)", x.about(3), 1);
        x.keep();
        Bench.prove(x, "axiom b;");
        x.keep();
        Bench.prove(x, "axiom a;left 0;");
        bench.due("refused", Bench.refused(x), "1 for 2");
        bench.due("drop", x.drop(), 1);
        bench.due("no proof", x.about(3), 0);
        bench.due("line", x.line(0, 0), -1);
        bench.due("refused", Bench.refused(x), "-1 for -1");
        bench.due("theorem 1", x.theorem(1, 0), -1);
        bench.due("leans", x.leans(1, 0), -1);
        bench.due("theorem 0", Bench.theorem(x, 0), "10");
        bench.due("keep", x.keep(), -1);
        bench.due("proof", Bench.prove(x, "theorem 0;theorem 1;"), 1);
        bench.due("drop", x.drop(), 0);
        bench.due("drop of none", x.drop(), -1);
        bench.due("about(4)", x.about(4), 0);
        Bench.prove(x, "axiom b;");
        bench.due("keep", x.keep(), 0);
        bench.due("theorem 0", Bench.theorem(x, 0), "4 11 40");
    }

    private static void images() {
        ProofBench x = bench.with(THEORY);
        for (int box = 0; box < 3; box++) {
            bench.due("back of an empty box", x.back(box), -1);
        }
        bench.due("image of no theorems", x.image(0), 0);
        Bench.prove(x, "axiom a;");
        x.keep();
        bench.due("image of one", x.image(1), 1);
        bench.due("the proof stays", x.about(3), 1);
        Bench.prove(x, "theorem 0;axiom b;both 0 1;");
        x.keep();
        bench.due("image of two", x.image(2), 2);
        bench.due("back to none", x.back(0), 0);
        bench.due("about(4)", x.about(4), 0);
        bench.due("no proof", x.about(3), 0);
        bench.due("theorem", x.theorem(0, 0), -1);
        bench.due("back to two", x.back(2), 2);
        bench.due("theorem 1", Bench.theorem(x, 1), "1 10 4 11 40");
        bench.due("leans", x.leans(1, 0), 2);
        bench.due("leans", x.leans(1, 1), 1);
        bench.due("leans", x.leans(1, 2), 3);
        bench.due("back to one", x.back(1), 1);
        bench.due("theorem 0", Bench.theorem(x, 0), "10");
        bench.due("theorem 1", x.theorem(1, 0), -1);
        Bench.prove(x, "axiom a;left 0;");
        bench.due("back with a refused step", x.back(1), 1);
        bench.due("refused", Bench.refused(x), "-1 for -1");
        Bench.prove(x, "axiom a;");
        bench.due("back, doing nothing", x.back(3), -1);
        bench.due("about(3)", x.about(3), 1);
        Bench.read(x, "n");
        Bench.put(x, "abc");
        x.back(2);
        bench.due("the formula stays", Bench.read(x), "10");
        bench.due("the tape stays", x.about(5), 3);
    }

    private static void imagesAreNotChanged() {
        ProofBench x = bench.with(THEORY);
        Bench.prove(x, "axiom a;");
        x.keep();
        x.image(0);
        x.drop();
        Bench.prove(x, "axiom e;");
        x.keep();
        x.keep();
        bench.due("theorem 0", Bench.theorem(x, 0), "3 10 10");
        bench.due("back", x.back(0), 1);
        bench.due("theorem 0", Bench.theorem(x, 0), "10");
        Bench.prove(x, "axiom b;");
        x.keep();
        bench.due("back again", x.back(0), 1);
        bench.due("image comes for the one that was", x.image(0), 1);
        x.drop();
        bench.due("image", x.image(0), 0);
        bench.due("back", x.back(0), 0);
        // What a theorem leans on comes back, too.
        x = bench.with(THEORY);
        Bench.prove(x, "axiom b;");
        x.keep();
        Bench.prove(x, "theorem 0;axiom e;both 0 1;");
        x.keep();
        x.image(0);
        x.drop();
        x.drop();
        Bench.prove(x, "axiom a;");
        x.keep();
        x.keep();
        bench.due("leans", x.leans(1, 0) * 100 + x.leans(1, 1) * 10 + x.leans(1, 2), 101);
        x.back(0);
        bench.due("leans of 0 on axioms", x.leans(0, 0), 2);
        bench.due("leans of 0 through all", x.leans(0, 2), 2);
        bench.due("leans of 1 on axioms", x.leans(1, 0), 8);
        bench.due("leans of 1 on theorems", x.leans(1, 1), 1);
        bench.due("leans of 1 through all", x.leans(1, 2), 10);
        Bench.prove(x, "theorem 1;");
        x.keep();
        bench.due("leans of 2 through all", x.leans(2, 2), 10);
        leansOfSeveralComeBack();
        x = bench.with(THEORY);
        // Two boxes have nothing to do with one another.
        Bench.prove(x, "axiom b;");
        x.keep();
        x.image(1);
        x.image(2);
        x.drop();
        x.image(1);
        bench.due("back", x.back(2), 1);
        bench.due("theorem 0", Bench.theorem(x, 0), "4 11 40");
        bench.due("back", x.back(1), 0);
    }

    private static void leansOfSeveralComeBack() {
        ProofBench x = bench.with(THEORY);
        String[] proofs = {"axiom e;", "axiom a;", "theorem 1;", "theorem 0;theorem 1;both 0 1;", "theorem 3;left 0;axiom b;both 1 2;"};
        long[] leans = {8 * 10000 + 8, 10000 + 1, 2 * 100 + 1, 3 * 100 + 9, 2 * 10000 + 8 * 100 + 11};
        for (String proof : proofs) {
            Bench.prove(x, proof);
            x.keep();
        }
        bench.due("image", x.image(1), 5);
        for (int i = 0; i < 5; i++) {
            x.drop();
        }
        Bench.prove(x, "assume n;deduce 0 n;");
        for (int i = 0; i < 5; i++) {
            bench.due("keep", x.keep(), i);
        }
        bench.due("back", x.back(1), 5);
        for (int i = 0; i < 5; i++) {
            bench.due("leans of " + i + " again", x.leans(i, 0) * 10000 + x.leans(i, 1) * 100 + x.leans(i, 2), leans[i]);
        }
    }

    private static void boxesThatAreNone() {
        ProofBench x = bench.with(THEORY);
        int[] wild = {-1, 3, Integer.MIN_VALUE, Integer.MAX_VALUE};
        for (int box : wild) {
            bench.due("image(" + box + ")", x.image(box), -1);
            bench.due("back(" + box + ")", x.back(box), -1);
        }
    }

    private static void wildArguments() {
        ProofBench x = bench.with(THEORY);
        Bench.prove(x, "axiom b;");
        x.keep();
        int[] wild = {-1, 1, 12, 31, 32, Integer.MIN_VALUE, Integer.MAX_VALUE};
        for (int i : wild) {
            bench.due("theorem(" + i + ", 0)", x.theorem(i, 0), -1);
            bench.due("leans(" + i + ", 0)", x.leans(i, 0), -1);
            bench.due("leans(" + i + ", 2)", x.leans(i, 2), -1);
        }
        bench.due("theorem(0, 3)", x.theorem(0, 3), -1);
        bench.due("theorem(0, -1)", x.theorem(0, -1), -1);
        bench.due("theorem(0, MAX)", x.theorem(0, Integer.MAX_VALUE), -1);
        bench.due("leans(0, 3)", x.leans(0, 3), -1);
        bench.due("leans(0, -1)", x.leans(0, -1), -1);
        bench.due("leans(0, MIN)", x.leans(0, Integer.MIN_VALUE), -1);
    }
}
