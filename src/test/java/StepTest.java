/** Promise 6, and 7 to 10 with it: each rule of a step, what it assumes then, and the causes for which it is refused. */
public final class StepTest {
    private static final Bench bench = new Bench();
    /** n, m, l: 10, 11, 12; p, q: 13, 14; c, f, g: 20, 21, 22. */
    private static final String THEORY = "rel n 0;rel m 0;rel l 0;rel p 1;rel q 2;fun c 0;fun f 1;fun g 2;"
            + "axiom a imp n m;axiom e all x p x;axiom s some x all y q x y;axiom t same c f c;";

    public static void main(String[] args) {
        assumeAxiomTheorem();
        bothLeftRight();
        orleftOrright();
        cases();
        apply();
        deduce();
        general();
        special();
        exist();
        open();
        same();
        replace();
        absurdAndClassic();
        premisesThatThereAreNot();
        tooMuch();
        causesInOrder();
        orderOfWhatIsAssumed();
        premisesFurtherAhead();
        bench.finish("StepTest");
    }

    private static ProofBench proof(String text, int steps) {
        ProofBench x = bench.with(THEORY);
        bench.due("prove " + text, Bench.prove(x, text), steps);
        bench.due("refused of " + text, Bench.refused(x), "-1 for -1");
        return x;
    }

    /** The last step of a text is due to come to a formula that assumes so much. */
    private static void comesTo(String text, String pieces, String assumed) {
        ProofBench x = bench.with(THEORY);
        int steps = text.split(";").length;
        bench.due("prove " + text, Bench.prove(x, text), steps);
        bench.due("line of " + text, Bench.line(x, steps - 1), pieces);
        bench.due("pieces of " + text, x.step(steps - 1, 0), pieces.split(" ").length);
        bench.due("assumed of " + text, Bench.assumed(x, steps - 1), assumed);
        bench.due("step(.., 1) of " + text, x.step(steps - 1, 1), assumed.isEmpty() ? 0 : assumed.split(",").length);
    }

    /** The last step of a text is due to be refused. */
    private static void refused(String text, int cause) {
        ProofBench x = bench.with(THEORY);
        int steps = text.split(";").length;
        bench.due("prove " + text, Bench.prove(x, text), steps - 1);
        bench.due("refused of " + text, Bench.refused(x), steps - 1 + " for " + cause);
        bench.due("line of " + text, Bench.line(x, steps - 1), "");
    }

    private static void assumeAxiomTheorem() {
        comesTo("assume imp n m;", "3 10 11", "3 10 11");
        comesTo("assume not p u;", "3 13 60 0", "3 13 60 0");
        comesTo("axiom s;", "5 4 14 41 40", "");
        comesTo("axiom a;", "3 10 11", "");
        refused("theorem 0;", 1);
        ProofBench x = proof("axiom a;", 1);
        bench.due("leans", x.step(0, 2), 1);
        x.keep();
        bench.due("prove", Bench.prove(x, "theorem 0;theorem 1;"), 1);
        bench.due("line", Bench.line(x, 0), "3 10 11");
        bench.due("leans on axioms", x.step(0, 2), 0);
        bench.due("leans on theorems", x.step(0, 3), 1);
        bench.due("refused", Bench.refused(x), "1 for 1");
    }

    private static void bothLeftRight() {
        comesTo("assume n;assume m;both 0 1;", "1 10 11", "10, 11");
        comesTo("assume n;assume m;both 1 0;", "1 11 10", "11, 10");
        comesTo("assume n;both 0 0;", "1 10 10", "10");
        comesTo("assume and imp n m p f u;left 0;", "3 10 11", "1 3 10 11 13 21 60");
        comesTo("assume and imp n m p f u;right 0;", "13 21 60", "1 3 10 11 13 21 60");
        refused("assume or n m;left 0;", 2);
        refused("assume or n m;right 0;", 2);
        refused("assume all x and n p x;left 0;", 2);
        refused("assume false;left 0;", 2);
    }

    private static void orleftOrright() {
        comesTo("assume n;orleft 0 imp m l;", "2 10 3 11 12", "10");
        comesTo("assume n;orright 0 imp m l;", "2 3 11 12 10", "10");
        comesTo("assume n;orleft 0 n;", "2 10 10", "10");
    }

    private static void cases() {
        comesTo("assume or n m;assume n;assume m;assume l;both 1 3;right 4;both 2 3;right 6;case 0 5 7;",
                "12", "2 10 11, 12");
        // Each is left out of what its own case assumes, and of no other one.
        comesTo("assume or n m;assume n;assume m;assume l;both 2 3;right 4;both 1 3;right 6;case 0 5 7;",
                "12", "2 10 11, 11, 12, 10");
        comesTo("assume or n n;assume n;case 0 1 1;", "10", "2 10 10");
        comesTo("assume or n m;assume n;case 0 1 1;", "10", "2 10 11, 10");
        comesTo("assume or l m;assume or n m;assume n;both 2 0;left 3;case 1 4 4;", "10", "2 10 11, 2 12 11, 10");
        // The or itself stays, though it is the first of itself nowhere.
        comesTo("assume or or n n n;assume or n n;assume n;case 1 2 2;orleft 3 n;case 0 1 4;",
                "2 10 10", "2 2 10 10 10, 2 10 10");
        refused("assume and n m;assume l;case 0 1 1;", 2);
        refused("assume or n m;assume l;assume n;case 0 1 2;", 2);
        refused("assume or p u p v;assume p u;assume p v;case 0 1 2;", 2);
    }

    private static void apply() {
        comesTo("axiom a;assume n;apply 0 1;", "11", "10");
        comesTo("assume imp all x p x q u v;axiom e;apply 0 1;", "14 60 61", "3 4 13 40 14 60 61");
        comesTo("assume not n;assume n;apply 0 1;", "0", "3 10 0, 10");
        comesTo("assume imp imp n m l;axiom a;apply 0 1;", "12", "3 3 10 11 12");
        refused("axiom a;assume m;apply 0 1;", 2);
        refused("axiom a;assume n;apply 1 0;", 2);
        refused("assume or n m;assume n;apply 0 1;", 2);
        refused("assume imp p u n;assume p v;apply 0 1;", 2);
        refused("assume imp and n m l;assume n;apply 0 1;", 2);
        refused("assume imp n m;assume and n m;apply 0 1;", 2);
    }

    private static void deduce() {
        comesTo("assume n;deduce 0 n;", "3 10 10", "");
        comesTo("assume n;deduce 0 m;", "3 11 10", "10");
        comesTo("assume n;assume m;both 0 1;deduce 2 n;", "3 10 1 10 11", "11");
        comesTo("assume n;assume m;both 0 1;deduce 2 n;deduce 3 m;", "3 11 3 10 1 10 11", "");
        comesTo("assume all x p x;deduce 0 all y p y;", "3 4 13 40 4 13 40", "");
        comesTo("assume p x;deduce 0 p y;", "3 13 61 13 60", "13 60");
    }

    private static void general() {
        comesTo("axiom e;special 0 u;general 1 u;", "4 13 40", "");
        comesTo("assume n;general 0 u;", "4 10", "10");
        comesTo("assume p u;assume n;orleft 0 m;deduce 2 p u;general 3 u;",
                "4 3 13 40 2 13 40 11", "");
        comesTo("same g u v;general 0 u;", "4 6 22 40 61 22 40 61", "");
        comesTo("same g u v;general 0 u;general 1 v;", "4 4 6 22 40 41 22 40 41", "");
        comesTo("same g u v;general 0 v;general 1 u;", "4 4 6 22 41 40 22 41 40", "");
        comesTo("same u;orright 0 all x some y q x u;general 1 u;", "4 2 4 5 14 41 42 6 40 40", "");
        comesTo("assume p v;general 0 u;", "4 13 60", "13 60");
        refused("assume p u;general 0 u;", 3);
        refused("assume p u;assume n;both 0 1;right 2;general 3 u;", 3);
        refused("assume all x q x u;special 0 c;general 1 u;", 3);
    }

    private static void special() {
        comesTo("axiom e;special 0 f g c u;", "13 21 22 20 60", "");
        comesTo("axiom e;special 0 x;", "13 60", "");
        comesTo("assume all x some y q x y;special 0 f z;", "5 14 21 60 40", "4 5 14 41 40");
        comesTo("assume all x and p x all y all z and q x y q z x;special 0 c;",
                "1 13 20 4 4 1 14 20 41 14 40 20", "4 1 13 40 4 4 1 14 42 41 14 40 42");
        comesTo("assume all x all x p x;special 0 c;", "4 13 40", "4 4 13 40");
        comesTo("assume all x n;special 0 u;", "10", "4 10");
        comesTo("assume all x all y q x y;special 0 y;special 1 y;", "14 60 60", "4 4 14 41 40");
        refused("axiom s;special 0 c;", 2);
        refused("assume n;special 0 c;", 2);
        refused("assume and all x p x n;special 0 c;", 2);
    }

    private static void exist() {
        comesTo("assume q c c;exist 0 c some x q x x;", "5 14 40 40", "14 20 20");
        comesTo("assume q c c;exist 0 c some x q x c;", "5 14 40 20", "14 20 20");
        comesTo("assume q c c;exist 0 c some x q c c;", "5 14 20 20", "14 20 20");
        comesTo("assume n;exist 0 u some x n;", "5 10", "10");
        comesTo("assume all y q f u y;exist 0 f u some x all z q x z;", "5 4 14 41 40", "4 14 21 60 40");
        comesTo("assume all y q u y;exist 0 u some u all z q u z;", "5 4 14 41 40", "4 14 60 40");
        refused("assume q c c;exist 0 c all x q x x;", 4);
        refused("assume q c c;exist 0 c q c c;", 4);
        refused("assume q c c;exist 0 f c some x q x x;", 4);
        refused("assume q c f c;exist 0 c some x q x x;", 4);
        refused("assume p u;exist 0 v some x p x;", 4);
        refused("assume and n m;exist 0 c some x n;", 4);
        // So many pieces would come of it, that it is alike nothing.
        refused("assume n;exist 0 g c c some x and q g x x g x x and q g x x g x x and q g x x g x x q x x;", 4);
    }

    private static void open() {
        comesTo("assume some x p x;assume p u;assume n;both 1 2;right 3;open 0 4 u;", "10", "5 13 40, 10");
        comesTo("assume some x p x;assume n;open 0 1 u;", "10", "5 13 40, 10");
        comesTo("axiom s;assume all y q u y;special 1 c;exist 2 u some x q x c;open 0 3 u;", "5 14 40 20", "");
        comesTo("assume some x n;assume n;open 0 1 u;", "10", "5 10");
        // What the first premise assumes may have the X.
        comesTo("assume p u;assume imp p u some x p x;apply 1 0;assume n;open 2 3 u;", "10", "3 13 60 5 13 40, 13 60, 10");
        comesTo("assume p u;assume some x p x;open 1 1 u;", "5 13 40", "5 13 40");
        refused("assume n;assume m;open 0 1 u;", 2);
        refused("assume all x p x;assume m;open 0 1 u;", 2);
        refused("assume some x p x;assume p u;open 0 1 u;", 3);
        refused("assume some x q x u;assume n;open 0 1 u;", 3);
        refused("assume some x p x;assume p u;assume not p u;apply 2 1;absurd 3 n;open 0 4 u;", 3);
        refused("assume some x p x;assume p u;exist 1 u some x p x;open 0 1 u;", 3);
        comesTo("assume some x p x;assume p u;exist 1 u some x p x;open 0 2 u;", "5 13 40", "5 13 40");
        comesTo("assume some x p x;assume p u;exist 1 u some x p x;open 0 2 v;", "5 13 40", "5 13 40, 13 60");
    }

    private static void same() {
        comesTo("same c;", "6 20 20", "");
        comesTo("same g f u v;", "6 22 21 60 61 22 21 60 61", "");
        ProofBench x = proof("same c;", 1);
        bench.due("leans", x.step(0, 2) + x.step(0, 3), 0);
    }

    private static void replace() {
        comesTo("axiom t;assume q c c;replace 0 1 q c c;", "14 20 20", "14 20 20");
        comesTo("axiom t;assume q c c;replace 0 1 q f c c;", "14 21 20 20", "14 20 20");
        comesTo("axiom t;assume q c c;replace 0 1 q c f c;", "14 20 21 20", "14 20 20");
        comesTo("axiom t;assume q c c;replace 0 1 q f c f c;", "14 21 20 21 20", "14 20 20");
        comesTo("axiom t;assume p f c;replace 0 1 p f f c;", "13 21 21 20", "13 21 20");
        comesTo("assume same u f v;assume all x and q x u p g u x;replace 0 1 all x and q x f v p g u x;",
                "4 1 14 40 21 61 13 22 60 40", "6 60 21 61, 4 1 14 40 60 13 22 60 40");
        comesTo("assume same f c c;assume p f f c;replace 0 1 p f c;", "13 21 20", "6 21 20 20, 13 21 21 20");
        comesTo("assume same u v;same u;replace 0 1 same v u;", "6 61 60", "6 60 61");
        comesTo("assume same g c c f c;assume p g c c;replace 0 1 p f c;", "13 21 20", "6 22 20 20 21 20, 13 22 20 20");
        refused("axiom t;assume p f c;replace 0 1 p c;", 4);
        refused("axiom t;assume q c c;replace 0 1 q c u;", 4);
        refused("axiom t;assume q c c;replace 0 1 q f f c c;", 4);
        refused("axiom t;assume n;replace 0 1 m;", 4);
        // Terms that are another one only in the last piece, or in the first.
        comesTo("assume same c f u;assume p c;replace 0 1 p f u;", "13 21 60", "6 20 21 60, 13 20");
        refused("assume same c f u;assume p c;replace 0 1 p f v;", 4);
        refused("assume same c u;assume p c;replace 0 1 p v;", 4);
        refused("assume same c f u;assume p c;replace 0 1 p u;", 4);
        refused("assume same f u c;assume p f v;replace 0 1 p c;", 4);
        refused("assume same u c;assume p v;replace 0 1 p c;", 4);
        refused("assume same g u v c;assume p g u u;replace 0 1 p c;", 4);
        refused("assume same c g u v;assume q c u;replace 0 1 q g u u u;", 4);
        refused("assume same c g u v;assume q c u;replace 0 1 q g v v u;", 4);
        refused("axiom t;assume p c;replace 0 1 and p c n;", 4);
        refused("axiom t;assume and p c n;replace 0 1 p c;", 4);
        refused("axiom a;assume n;replace 0 1 n;", 2);
        refused("assume all x same x c;assume p c;replace 0 1 p c;", 2);
        // A bound X is no free one.
        refused("assume same u c;assume all u p u;replace 0 1 all u p c;", 4);
    }

    private static void absurdAndClassic() {
        comesTo("assume false;absurd 0 p u;", "13 60", "0");
        comesTo("assume not n;assume n;apply 0 1;absurd 2 n;", "10", "3 10 0, 10");
        comesTo("assume not n;assume n;apply 0 1;classic 2 n;", "10", "10");
        comesTo("assume not n;assume n;apply 0 1;classic 2 m;", "11", "3 10 0, 10");
        comesTo("assume not not n;assume not n;apply 0 1;classic 2 n;", "10", "3 3 10 0 0");
        comesTo("assume imp n false;assume n;apply 0 1;classic 2 n;deduce 3 n;", "3 10 10", "");
        comesTo("assume false;classic 0 false;", "0", "0");
        refused("assume n;absurd 0 m;", 2);
        refused("assume not n;classic 0 n;", 2);
        refused("assume and false false;absurd 0 n;", 2);
    }

    private static void premisesThatThereAreNot() {
        refused("left 0;", 1);
        refused("assume n;both 0 1;", 1);
        refused("assume n;both 1 0;", 1);
        refused("assume n;both 0 9999;", 1);
        refused("assume or n n;assume n;case 0 1 2;", 1);
        refused("assume or n n;assume n;case 0 2 1;", 1);
        refused("assume or n n;assume n;case 2 1 1;", 1);
        refused("general 0 u;", 1);
        refused("special 3 c;", 1);
        refused("exist 0 c n;", 1);
        refused("assume n;open 0 1 u;", 1);
        refused("assume n;open 1 0 u;", 1);
        refused("assume n;replace 0 40 n;", 1);
        refused("deduce 0 n;", 1);
        refused("orleft 0 n;", 1);
        refused("orright 0 n;", 1);
        refused("right 0;", 1);
        refused("apply 0 0;", 1);
        refused("absurd 0 n;", 1);
        refused("classic 0 n;", 1);
        refused("theorem 12;", 1);
        refused("theorem 9999;", 1);
    }

    private static void tooMuch() {
        String wide = "assume " + Bench.wide(10) + ";";
        comesTo(wide + "both 0 0;general 1 u;", "4 1 " + wideRow(10) + " " + wideRow(10), wideRow(10));
        refused(wide + "both 0 0;both 1 1;", 5);
        refused(wide + "both 0 0;orleft 1 n;", 5);
        refused("assume " + Bench.wide(20) + ";orleft 0 n;", 5);
        refused("assume " + Bench.wide(20) + ";orright 0 n;", 5);
        refused("assume " + Bench.wide(20) + ";deduce 0 n;", 5);
        comesTo("assume " + Bench.wide(20) + ";general 0 u;", "4 " + wideRow(20), wideRow(20));
        refused("assume " + Bench.wide(20) + ";general 0 u;general 1 u;", 5);
        String twenty = "same " + Bench.repeat("g ", 9) + Bench.repeat("c ", 10) + ";";
        comesTo(twenty, "6 " + (Bench.repeat("22 ", 9) + Bench.repeat("20 ", 10)).repeat(2).trim(), "");
        refused("same " + "g " + Bench.repeat("g ", 9) + Bench.repeat("c ", 11) + ";", 5);
        refused("assume all x and q x x q x x;special 0 " + Bench.repeat("g ", 5) + Bench.repeat("c ", 6) + ";", 5);
        comesTo("assume all x q x x;special 0 " + Bench.repeat("g ", 9) + Bench.repeat("c ", 10) + ";",
                "14 " + (Bench.repeat("22 ", 9) + Bench.repeat("20 ", 10)).repeat(2).trim(), "4 14 40 40");
        // Depth.
        comesTo("same " + Bench.repeat("f ", 11) + "c;", "6 " + (Bench.repeat("21 ", 11) + "20 ").repeat(2).trim(), "");
        refused("same " + Bench.repeat("f ", 12) + "c;", 5);
        comesTo("assume all x p f x;special 0 " + Bench.repeat("f ", 10) + "c;", "13 " + Bench.repeat("21 ", 11) + "20", "4 13 21 40");
        refused("assume all x p f x;special 0 " + Bench.repeat("f ", 11) + "c;", 5);
        String deep = "assume " + Bench.repeat("or n ", 12) + "n;";
        String deepRow = Bench.repeat("2 10 ", 12) + "10";
        comesTo(deep, deepRow, deepRow);
        refused(deep + "orleft 0 n;", 5);
        refused(deep + "orright 0 n;", 5);
        refused(deep + "both 0 0;", 5);
        refused(deep + "deduce 0 n;", 5);
        refused(deep + "assume n;deduce 1 " + Bench.repeat("or n ", 12) + "n;", 5);
        refused(deep + "general 0 u;", 5);
        // All, some within one another.
        comesTo("same u;general 0 a;general 1 a;general 2 a;general 3 a;general 4 a;", "4 4 4 4 4 6 60 60", "");
        refused("same u;general 0 a;general 1 a;general 2 a;general 3 a;general 4 a;general 5 u;", 5);
        refused("assume some a some b some d all e all h n;general 0 u;", 5);
        comesTo("assume and all x n some a some b some d all e all h m;orleft 0 all x all y n;",
                "2 1 4 10 5 5 5 4 4 11 4 4 10", "1 4 10 5 5 5 4 4 11");
        // What is assumed.
        String[] all = {"n", "m", "l", "false", "p c", "p u", "p f c", "q c c", "q u u", "q c u", "q u c", "same c c"};
        StringBuilder twelve = new StringBuilder();
        for (String one : all) {
            twelve.append("assume ").append(one).append(';');
        }
        ProofBench x = bench.with(THEORY);
        StringBuilder chain = new StringBuilder(twelve);
        // Each both assumes one more of them; the right behind it keeps the formula small.
        int last = 0;
        int next = 12;
        for (int i = 1; i < 12; i++) {
            chain.append("both ").append(last).append(' ').append(i).append(";right ").append(next).append(';');
            last = next + 1;
            next += 2;
        }
        bench.due("prove " + chain, Bench.prove(x, chain.toString()), 34);
        bench.due("assumes twelve", x.step(33, 1), 12);
        bench.due("the first", x.assumed(33, 0, 0), 10);
        bench.due("the last", x.assumed(33, 11, 0), 6);
        bench.due("none behind", x.assumed(33, 12, 0), -1);
        bench.due("prove", Bench.prove(x, chain + "both 33 0;"), 35);
        bench.due("prove", Bench.prove(x, chain + "assume same u u;both 33 34;"), 35);
        bench.due("refused", Bench.refused(x), "35 for 5");
        bench.due("prove", Bench.prove(x, chain + "assume same u u;both 34 33;"), 35);
        bench.due("refused", Bench.refused(x), "35 for 5");
        bench.due("prove", Bench.prove(x, chain + "deduce 33 n;assume same u u;both 34 35;"), 37);
        bench.due("assumes twelve", x.step(36, 1), 12);
        // One more is told, but the same one is left out.
        bench.due("prove", Bench.prove(x, chain + "deduce 33 same u u;assume same u u;both 34 35;"), 36);
        bench.due("refused", Bench.refused(x), "36 for 5");
    }

    /** Other steps come between a premise and the step that takes it; what they left out is left out there alone. */
    private static void premisesFurtherAhead() {
        String other = "same g g c c f c;assume and n p g c c;assume n;";
        comesTo("assume and imp n m p f u;" + other + "left 0;", "3 10 11", "1 3 10 11 13 21 60");
        comesTo("assume and imp n m p f u;" + other + "right 0;", "13 21 60", "1 3 10 11 13 21 60");
        comesTo("assume or and n m l;assume n;" + other + "assume and n m;assume l;both 1 5;left 7;both 1 6;left 9;case 0 8 10;",
                "10", "2 1 10 11 12, 10");
        comesTo("assume imp and n p f c m;assume and n p f c;" + other + "apply 0 1;", "11",
                "3 1 10 13 21 20 11, 1 10 13 21 20");
        comesTo("same u;orright 0 all x some y q x u;same g g c c f c;same c;general 1 u;",
                "4 2 4 5 14 41 42 6 40 40", "");
        comesTo("assume all x some y q x y;same g g u u f u;assume n;special 0 c;", "5 14 20 40", "4 5 14 41 40");
        comesTo("assume some x some y q x y;assume some y q u y;assume n;both 1 2;right 3;same g c c;open 0 4 u;", "10",
                "5 5 14 41 40, 10");
        comesTo("assume same f c g c c;assume q c f c;same c;assume n;replace 0 1 q c g c c;", "14 20 22 20 20",
                "6 21 20 22 20 20, 14 20 21 20");
        comesTo("assume n;deduce 0 n;both 0 1;", "1 10 3 10 10", "10");
        comesTo("assume or n m;assume n;case 0 1 1;both 0 1;", "1 2 10 11 10", "2 10 11, 10");
        comesTo("assume not n;assume n;apply 0 1;classic 2 n;both 0 2;", "1 3 10 0 0", "3 10 0, 10");
    }

    private static String wideRow(int falses) {
        return Bench.wide(falses).replace("and", "1").replace("false", "0");
    }

    private static void causesInOrder() {
        // Premises that there are not come first, in whatever place they stand.
        refused("assume n;case 0 0 7;", 1);
        refused("assume n;exist 7 c all x n;", 1);
        refused("assume n;assume some x p x;open 0 9 u;", 1);
        refused("assume n;replace 0 9 m;", 1);
        refused("assume n;general 9 u;", 1);
        // A premise that is not as it must be comes ahead of an X that is free.
        refused("assume all x q x u;assume p u;open 0 1 u;", 2);
        refused("assume n;assume n;replace 0 1 m;", 2);
        // Too much comes last.
        refused("assume some a some b some d some e some h p u;general 0 u;", 3);
        refused("assume and p u " + Bench.wide(19) + ";general 0 u;", 3);
    }

    private static void orderOfWhatIsAssumed() {
        comesTo("assume n;assume m;assume l;both 2 0;both 1 3;", "1 11 1 12 10", "11, 12, 10");
        comesTo("assume n;assume m;both 0 1;both 1 0;both 2 3;", "1 1 10 11 1 11 10", "10, 11");
        comesTo("assume n;assume n;both 1 0;", "1 10 10", "10");
        comesTo("assume all x p x;assume all y p y;both 1 0;", "1 4 13 40 4 13 40", "4 13 40");
        comesTo("assume imp n m;assume n;apply 0 1;", "11", "3 10 11, 10");
        comesTo("assume n;assume imp n m;apply 1 0;", "11", "3 10 11, 10");
        comesTo("assume n;assume m;both 0 1;deduce 2 n;assume n;both 3 4;", "1 3 10 1 10 11 10", "11, 10");
    }
}
