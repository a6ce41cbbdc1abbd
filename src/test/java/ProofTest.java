/** Promises 6 to 10, 17 and 18: proofs as texts, and what is told of their steps. */
public final class ProofTest {
    private static final Bench bench = new Bench();
    private static final String THEORY =
            "rel n 0;rel m 0;rel p 1;rel q 2;fun c 0;fun f 1;axiom a imp n m;axiom b n;axiom e all x p x;";

    public static void main(String[] args) {
        proofs();
        faults();
        limitsOfTexts();
        faultLeavesTheProof();
        stepsBehindARefusedOne();
        noProof();
        wildArguments();
        whatStepsLeanOn();
        whatStepsNeed();
        alikeSteps();
        numbersOfFreeOnes();
        nothingIsLeftOfFormerProofs();
        bench.finish("ProofTest");
    }

    private static void fault(String text, int kind, int place) {
        ProofBench x = bench.with(THEORY);
        bench.due("prove " + text, Bench.prove(x, text), -1);
        bench.due("fault of " + text, Bench.fault(x), kind + " at " + place);
        bench.due("steps after " + text, x.about(3), 0);
        bench.due("tape after " + text, x.about(5), 0);
    }

    private static void proofs() {
        ProofBench x = bench.with(THEORY);
        bench.due("empty proof", x.prove(), 0);
        bench.due("refused", Bench.refused(x), "-1 for -1");
        bench.due("proof", Bench.prove(x, "axiom a;axiom b;\napply 0 1 ;both 02 0001;"), 4);
        bench.due("fault", Bench.fault(x), "0 at -1");
        bench.due("tape", x.about(5), 0);
        bench.due("about(3)", x.about(3), 4);
        bench.due("refused", Bench.refused(x), "-1 for -1");
        bench.due("line 0", Bench.line(x, 0), "3 10 11");
        bench.due("line 1", Bench.line(x, 1), "10");
        bench.due("line 2", Bench.line(x, 2), "11");
        bench.due("line 3", Bench.line(x, 3), "1 11 10");
        bench.due("pieces", x.step(3, 0), 3);
        bench.due("assumes", x.step(3, 1), 0);
        bench.due("a proof comes for the one that was", Bench.prove(x, "assume m;"), 1);
        bench.due("line 0", Bench.line(x, 0), "11");
        bench.due("line 1", Bench.line(x, 1), "");
        bench.due("assumes", x.step(0, 1), 1);
        bench.due("what it assumes", Bench.assumed(x, 0), "11");
        bench.due("theory alone has no proof", Bench.theory(x, THEORY), 3);
        bench.due("about(3)", x.about(3), 0);
    }

    private static void faults() {
        fault(";", 2, 0);
        fault("n;", 2, 0);
        fault("false;", 2, 0);
        fault("not n;", 2, 0);
        fault("rel p 1;", 2, 0);
        fault("3;", 2, 0);
        fault("_", 1, 0);
        fault("assume", 2, 6);
        fault("assume ;", 2, 7);
        fault("assume n", 2, 8);
        fault("assume n n;", 2, 9);
        fault("assume n;;", 2, 9);
        fault("assume 1;", 2, 7);
        fault("assume c;", 2, 7);
        fault("assume p n;", 2, 9);
        fault("axiom;", 2, 5);
        fault("axiom 0;", 2, 6);
        fault("axiom n;", 6, 6);
        fault("axiom left;", 2, 6);
        fault("axiom aa;", 6, 6);
        fault("axiom a;axiom d n", 6, 14);
        fault("axiom a b;", 2, 8);
        fault("theorem;", 2, 7);
        fault("theorem a;", 2, 8);
        fault("theorem 0 0;", 2, 10);
        fault("theorem 00000;", 1, 8);
        fault("both 0;", 2, 6);
        fault("both 0 0 0;", 2, 9);
        fault("both 0x 0;", 1, 5);
        fault("left;", 2, 4);
        fault("left n;", 2, 5);
        fault("right 0 0;", 2, 8);
        fault("orleft 0;", 2, 8);
        fault("orright n 0;", 2, 8);
        fault("case 0 0;", 2, 8);
        fault("apply 0;", 2, 7);
        fault("deduce n;", 2, 7);
        fault("deduce 0;", 2, 8);
        fault("general 0;", 2, 9);
        fault("general 0 c;", 2, 10);
        fault("general 0 n;", 2, 10);
        fault("general 0 all;", 2, 10);
        fault("general 0 1;", 2, 10);
        fault("general x 0;", 2, 8);
        fault("special 0;", 2, 9);
        fault("special 0 n;", 2, 10);
        fault("special 0 f;", 2, 11);
        fault("special 0 x x;", 2, 12);
        fault("exist 0 n;", 2, 8);
        fault("exist 0 x;", 2, 9);
        fault("exist 0 some x p x;", 2, 8);
        fault("open 0 x;", 2, 7);
        fault("open 0 0 p;", 2, 9);
        fault("open 0 0;", 2, 8);
        fault("same;", 2, 4);
        fault("same c c;", 2, 7);
        fault("same n;", 2, 5);
        fault("replace 0 0;", 2, 11);
        fault("replace 0 n;", 2, 10);
        fault("absurd 0;", 2, 8);
        fault("absurd n;", 2, 7);
        fault("classic 0;", 2, 9);
        fault("classic not n;", 2, 8);
        // The text is read ahead of any step that is taken.
        fault("left 5;assume", 2, 13);
        fault("left 5;assume n", 2, 15);
    }

    private static void limitsOfTexts() {
        ProofBench x = bench.with(THEORY);
        bench.due("40 steps", Bench.prove(x, Bench.repeat("axiom b;", 40)), 40);
        bench.due("line of the last", Bench.line(x, 39), "10");
        bench.due("needs of the last", x.needs(39), 1L << 39);
        fault(Bench.repeat("axiom b;", 40) + "axiom b;", 2, 320);
        fault(Bench.repeat("axiom b;", 40) + "axiom", 2, 320);
        fault(Bench.repeat("axiom b;", 40) + "b", 2, 320);
        fault(Bench.repeat("axiom b;", 40) + "_", 1, 320);
        fault("assume " + Bench.wide(21) + ";", 2, 7 + Bench.wide(21).length() - 5);
        fault("deduce 0 not " + Bench.wide(20) + ";", 2, 13 + Bench.wide(20).length() - 5);
        fault("assume n;deduce 0 and and n p c and " + Bench.wide(17) + " not n;", 2, 37 + Bench.wide(17).length());
        // The nots of a formula are not those of the next one.
        String wideNot = "assume not and p c " + Bench.wide(18) + ";";
        bench.due("nots", Bench.prove(x, wideNot + wideNot), 2);
        fault("assume not " + Bench.wide(20) + ";", 2, 11 + Bench.wide(20).length() - 5);
        bench.due("nots that had a fault", Bench.prove(x, "assume not and n " + Bench.wide(20) + ";"), -1);
        bench.due("nots behind a fault", Bench.prove(x, wideNot), 1);
        fault("same " + Bench.repeat("f ", 13) + "c;", 2, 5 + 26);
        // In a proof all told ones count together: general and open tell theirs, too.
        String ten = "assume and same a b and same d e and same g h and same i j same k l;";
        bench.due("12 free ones", Bench.prove(x, ten + "general 0 s;open 0 0 t;"), 2);
        fault(ten + "general 0 s;open 0 0 t;same u;", 2, ten.length() + 12 + 11 + 5);
        fault(ten + "general 0 s;special 0 t;open 0 0 u;", 2, ten.length() + 12 + 12 + 9);
        fault(ten + "same s;same t;general 0 u;left", 2, ten.length() + 14 + 10);
    }

    private static void faultLeavesTheProof() {
        ProofBench x = bench.with(THEORY);
        Bench.prove(x, "axiom a;left 0;");
        bench.due("refused", Bench.refused(x), "1 for 2");
        bench.due("fault", Bench.prove(x, "axiom b;axiom b;axiom b;general 0 z"), -1);
        bench.due("tape", x.about(5), 0);
        bench.due("steps", x.about(3), 1);
        bench.due("line", Bench.line(x, 0), "3 10 11");
        bench.due("refused", Bench.refused(x), "1 for 2");
        bench.due("proof", Bench.prove(x, "axiom b;"), 1);
        bench.due("refused", Bench.refused(x), "-1 for -1");
    }

    private static void stepsBehindARefusedOne() {
        ProofBench x = bench.with(THEORY);
        bench.due("proof", Bench.prove(x, "axiom a;axiom b;left 0;axiom a;left 9;"), 2);
        bench.due("refused", Bench.refused(x), "2 for 2");
        bench.due("about(3)", x.about(3), 2);
        bench.due("step(2, 0)", x.step(2, 0), -1);
        bench.due("line(2, 0)", x.line(2, 0), -1);
        bench.due("assumed(2, 0, 0)", x.assumed(2, 0, 0), -1);
        bench.due("needs(2)", x.needs(2), -1);
        bench.due("line(3, 0)", x.line(3, 0), -1);
        bench.due("refused(2)", x.refused(2), -1);
        bench.due("refused(-1)", x.refused(-1), -1);
        bench.due("refused(MAX)", x.refused(Integer.MAX_VALUE), -1);
        bench.due("first step", Bench.prove(x, "both 0 0;"), 0);
        bench.due("refused", Bench.refused(x), "0 for 1");
        bench.due("step(0, 0)", x.step(0, 0), -1);
    }

    private static void noProof() {
        ProofBench x = bench.with(THEORY);
        bench.due("refused", Bench.refused(x), "-1 for -1");
        bench.due("step", x.step(0, 0), -1);
        bench.due("line", x.line(0, 0), -1);
        bench.due("assumed", x.assumed(0, 0, 0), -1);
        bench.due("needs", x.needs(0), -1);
        Bench.read(x, "n");
        bench.due("alike", x.alike(), -1);
    }

    private static void wildArguments() {
        ProofBench x = bench.with(THEORY);
        Bench.prove(x, "assume p c;axiom b;both 0 1;");
        int[] wild = {-1, 3, 40, 41, 64, Integer.MIN_VALUE, Integer.MAX_VALUE};
        for (int i : wild) {
            for (int what = 0; what < 4; what++) {
                bench.due("step(" + i + ", " + what + ")", x.step(i, what), -1);
            }
            bench.due("line(" + i + ", 0)", x.line(i, 0), -1);
            bench.due("line(2, " + i + ")", x.line(2, i == 3 ? 4 : i), -1);
            bench.due("assumed(" + i + ", 0, 0)", x.assumed(i, 0, 0), -1);
            bench.due("assumed(2, " + i + ", 0)", x.assumed(2, i, 0), -1);
            bench.due("assumed(2, 0, " + i + ")", x.assumed(2, 0, i), -1);
            bench.due("needs(" + i + ")", x.needs(i), -1);
        }
        bench.due("assumed(2, 1, 0)", x.assumed(2, 1, 0), -1);
        bench.due("assumed(2, 0, 2)", x.assumed(2, 0, 2), -1);
        bench.due("assumed(1, 0, 0)", x.assumed(1, 0, 0), -1);
        bench.due("assumed(2, 0, 1)", x.assumed(2, 0, 1), 20);
        bench.due("step(2, 4)", x.step(2, 4), -1);
        bench.due("step(2, -1)", x.step(2, -1), -1);
        bench.due("step(2, MAX)", x.step(2, Integer.MAX_VALUE), -1);
        bench.due("step(2, 0)", x.step(2, 0), 4);
        bench.due("step(2, 1)", x.step(2, 1), 1);
        bench.due("step(2, 2)", x.step(2, 2), 2);
        bench.due("step(2, 3)", x.step(2, 3), 0);
    }

    private static void whatStepsLeanOn() {
        ProofBench x = bench.with(THEORY);
        Bench.prove(x, "axiom a;");
        x.keep();
        Bench.prove(x, "theorem 0;axiom e;both 0 1;");
        x.keep();
        Bench.prove(x, "theorem 1;right 0;special 1 c;axiom b;theorem 0;apply 4 3;orleft 5 m;assume m;both 7 6;");
        bench.due("steps", x.about(3), 9);
        bench.due("axioms of a theorem's step", x.step(0, 2), 0);
        bench.due("theorems of it", x.step(0, 3), 2);
        bench.due("axioms of 2", x.step(2, 2), 0);
        bench.due("theorems of 2", x.step(2, 3), 2);
        bench.due("axioms of 3", x.step(3, 2), 2);
        bench.due("theorems of 3", x.step(3, 3), 0);
        bench.due("axioms of 5", x.step(5, 2), 2);
        bench.due("theorems of 5", x.step(5, 3), 1);
        bench.due("axioms of 7", x.step(7, 2), 0);
        bench.due("axioms of 8", x.step(8, 2), 2);
        bench.due("theorems of 8", x.step(8, 3), 1);
    }

    private static void whatStepsNeed() {
        ProofBench x = bench.with(THEORY);
        Bench.prove(x, "axiom a;axiom b;apply 0 1;axiom e;special 3 c;both 2 2;both 5 1;theorem 0;");
        bench.due("needs 0", x.needs(0), 1);
        bench.due("needs 1", x.needs(1), 2);
        bench.due("needs 2", x.needs(2), 7);
        bench.due("needs 4", x.needs(4), 8 + 16);
        bench.due("needs 5", x.needs(5), 32 + 7);
        bench.due("needs 6", x.needs(6), 64 + 32 + 7);
        bench.due("needs 7", x.needs(7), -1);
        Bench.prove(x, "axiom b;" + Bench.repeat("axiom a;", 36) + "both 0 36;orleft 37 n;left 37;");
        bench.due("needs of high ones", x.needs(39), 1L << 39 | 1L << 37 | 1L << 36 | 1);
    }

    private static void alikeSteps() {
        ProofBench x = bench.with(THEORY);
        Bench.prove(x, "assume p z;axiom e;assume all y p y;assume n;axiom b;assume q y z;");
        bench.due("alike of none", x.alike(), -1);
        Bench.read(x, "all u p u");
        bench.due("alike, with another bound X", x.alike(), 1);
        Bench.read(x, "n");
        bench.due("the first of two", x.alike(), 3);
        Bench.read(x, "p a");
        bench.due("free ones are alike by number", x.alike(), 0);
        Bench.read(x, "q a b");
        bench.due("but by number alone", x.alike(), -1);
        Bench.read(x, "q b a");
        bench.due("so it is told first", x.alike(), -1);
        Bench.read(x, "m");
        bench.due("no step", x.alike(), -1);
        Bench.read(x, "n n");
        bench.due("after a fault", x.alike(), -1);
        Bench.prove(x, "axiom b;left 0;assume m;");
        Bench.read(x, "m");
        bench.due("not of a step behind", x.alike(), -1);
        Bench.read(x, "n");
        bench.due("ahead of it", x.alike(), 0);
    }

    private static void nothingIsLeftOfFormerProofs() {
        ProofBench x = bench.with(THEORY);
        Bench.prove(x, "axiom b;");
        x.keep();
        String wide = "assume " + Bench.wide(20) + ";";
        for (int turn = 0; turn < 3; turn++) {
            bench.due("prove", Bench.prove(x, wide + "theorem 0;both 1 1;axiom a;both 2 3;both 0 0;"), 5);
            bench.due("refused", Bench.refused(x), "5 for 5");
            bench.due("leans", x.step(4, 3), 1);
        }
        for (int turn = 0; turn < 3; turn++) {
            String text = "same c;same c;assume m;same c;same c;same f c;same c;";
            bench.due("prove", Bench.prove(x, text), 7);
            bench.due("line", Bench.line(x, 5), "6 21 20 21 20");
            for (int i = 0; i < 7; i++) {
                bench.due("axioms", x.step(i, 2), 0);
                bench.due("theorems", x.step(i, 3), 0);
                bench.due("assumes", x.step(i, 1), i == 2 ? 1 : 0);
                bench.due("needs", x.needs(i), 1L << i);
            }
        }
        bench.due("prove", Bench.prove(x, "left 0;axiom a;"), 0);
        bench.due("about(3)", x.about(3), 0);
        bench.due("line", x.line(0, 0), -1);
        bench.due("prove nothing", Bench.prove(x, ""), 0);
        bench.due("about(3)", x.about(3), 0);
        bench.due("refused", Bench.refused(x), "-1 for -1");
        bench.due("prove nothing", Bench.prove(x, ""), 0);
        bench.due("refused", Bench.refused(x), "-1 for -1");
    }

    private static void numbersOfFreeOnes() {
        ProofBench x = bench.with(THEORY);
        Bench.prove(x, "assume p u;assume q v u;same w;general 0 k;assume p l;");
        bench.due("refused", Bench.refused(x), "-1 for -1");
        bench.due("line 0", Bench.line(x, 0), "12 60");
        bench.due("line 1", Bench.line(x, 1), "13 61 60");
        bench.due("line 2", Bench.line(x, 2), "6 62 62");
        bench.due("line 3", Bench.line(x, 3), "4 12 60");
        bench.due("the X of general has a number, too", Bench.line(x, 4), "12 64");
        Bench.prove(x, "assume p z;axiom e;special 1 y;special 1 z;exist 0 z some y p y;");
        bench.due("numbers begin anew", Bench.line(x, 0), "12 60");
        bench.due("line 2", Bench.line(x, 2), "12 61");
        bench.due("line 3", Bench.line(x, 3), "12 60");
        bench.due("line 4", Bench.line(x, 4), "5 12 40");
    }
}
