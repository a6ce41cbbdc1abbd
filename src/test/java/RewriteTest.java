/** Promises 22 to 24: terms that are read and rewritten, what they become, and the rules. */
public final class RewriteTest {
    private static final Bench bench = new Bench();
    /** o, s: 20, 21; f: 22 adds. */
    private static final String ADD = "fun o 0;fun s 1;fun f 2;"
            + "axiom a all x same f o x x;axiom b all x all y same f s x y s f x y;";

    public static void main(String[] args) {
        rules();
        terms();
        faults();
        order();
        sameTermForSameX();
        spentByTimes();
        spentByPieces();
        spentByDepth();
        whatIsNotNormal();
        bench.finish("RewriteTest");
    }

    private static void rewritten(String theory, String text, int times, String pieces) {
        ProofBench x = bench.with(theory);
        bench.due("rewrite " + text + " by " + theory, Bench.rewrite(x, text), times);
        bench.due("normal of " + text + " by " + theory, Bench.normal(x), pieces);
        bench.due("fault of " + text, Bench.fault(x), "0 at -1");
        bench.due("tape after " + text, x.about(5), 0);
    }

    private static void rules(String theory, int bits) {
        ProofBench x = bench.with(theory);
        bench.due("rules of " + theory, x.rules(), bits);
    }

    private static void rules() {
        rules("", 0);
        rules(ADD, 3);
        rules("fun c 0;fun d 0;axiom a same c d;axiom b same c c;axiom e not same c d;", 3);
        rules("rel p 1;fun c 0;axiom a all x p x;axiom b false;axiom d all x imp p x same c x;", 0);
        rules("fun f 1;axiom a all x same x f x;axiom b all x same f x x;axiom c all x all y same f x y;"
                + "axiom d all x all y same f x f x;axiom e some x same f x x;axiom g all x some y same f x f x;", 2 + 8);
        rules("fun f 2;fun c 0;axiom a all x all y same f x y f y x;axiom b all x all y same f x c y;"
                + "axiom d all x all x same f x x x;axiom e all x all y all z all u all v same f x f y f z f u v c;", 1 + 4 + 8);
        rules("fun c 0;axiom a all x same c x;axiom b all x same c c;", 2);
        rules("fun c 0;axiom a false;axiom b false;axiom d false;axiom e false;axiom f false;axiom g false;axiom h false;"
                + "axiom i same c c;", 128);
    }

    private static void terms() {
        rewritten(ADD, "x", 0, "60");
        rewritten(ADD, "o", 0, "20");
        rewritten(ADD, "f o o", 1, "20");
        rewritten(ADD, "f s s o s o", 3, "21 21 21 20");
        rewritten(ADD, "f x f o y", 1, "22 60 61");
        rewritten(ADD, "f y f s x y", 1, "22 60 21 22 61 60");
        rewritten(ADD, "f f s o s o z", 5, "21 21 60");
        rewritten(ADD, "s f o f o y", 2, "21 60");
        rewritten("", "x", 0, "60");
        rewritten("fun f 2;", "f y x", 0, "20 60 61");
        rewritten("fun c 0;fun d 0;fun e 0;axiom a same c d;axiom b same d e;", "c", 2, "22");
        // A rule need not use each X, nor stand at the root.
        rewritten("fun f 2;fun c 0;axiom a all x all y same f x y x;", "f f f c x y z", 3, "21");
        rewritten("fun f 2;fun c 0;axiom a all x all y same f x y c;", "f f x y z", 1, "21");
    }

    private static void fault(String text, int kind, int place) {
        ProofBench x = bench.with(ADD);
        Bench.read(x, "same y x");
        Bench.rewrite(x, "f o o");
        bench.due("rewrite " + text, Bench.rewrite(x, text), -1);
        bench.due("fault of " + text, Bench.fault(x), kind + " at " + place);
        bench.due("normal after " + text, Bench.normal(x), "");
        bench.due("tape after " + text, x.about(5), 0);
        bench.due("the formula stays after " + text, Bench.read(x), "6 60 61");
    }

    private static void faults() {
        fault("", 2, 0);
        fault("false", 2, 0);
        fault("same x y", 2, 0);
        fault("f o", 2, 3);
        fault("x y", 2, 2);
        fault("x;", 2, 1);
        fault("s 1", 2, 2);
        fault("s toolongword", 1, 2);
        fault("x _", 1, 2);
        fault(Bench.repeat("s ", 13) + "o", 2, 26);
        fault("f " + Bench.repeat("f o ", 13) + "o o", 2, 2 + 11 * 4 + 2);
        ProofBench x = bench.with("rel p 0;fun f 2;");
        bench.due("rewrite of a relation", Bench.rewrite(x, "f x p"), -1);
        bench.due("fault", Bench.fault(x), "2 at 4");
        String flat = "f f f f f x x f x x f f x x f x x f f f x x f x x f f x x f x x "
                + "f f f x x x x";
        bench.due("39 pieces", Bench.rewrite(x, flat), 0);
        bench.due("the last", x.normal(38), 60);
        bench.due("none behind", x.normal(39), -1);
        bench.due("41 pieces", Bench.rewrite(x, "f " + flat + " x"), -1);
        bench.due("fault", Bench.fault(x), "2 at " + (flat.length() + 3));
    }

    private static void order() {
        // The first piece at which a rule stands comes first, then the first rule.
        String both = "fun f 1;fun g 1;fun c 0;fun d 0;";
        rewritten(both + "axiom a same c d;axiom b all x same f x c;", "f c", 2, "23");
        rewritten(both + "axiom a all x same f f x x;axiom b all x same f x g x;", "f f f c", 2, "21 22");
        rewritten(both + "axiom b all x same f x g x;axiom a all x same f f x x;", "f f f c", 3, "21 21 21 22");
        rewritten(both + "axiom a same f c d;axiom b all x same f x c;", "f c", 1, "23");
        rewritten(both + "axiom b all x same f x c;axiom a same f c d;", "f c", 1, "22");
        // From the first piece on each time, not from where it was.
        rewritten("fun f 2;fun c 0;fun d 0;axiom a same f d d c;axiom b same c d;axiom e all x same f c x x;",
                "f c f c d", 2, "22");
        rewritten(both + "axiom a all x same g f x x;axiom b same c f d;", "g c", 2, "23");
    }

    private static void sameTermForSameX() {
        String twice = "fun f 2;fun g 1;fun c 0;axiom a all x same f x x c;";
        rewritten(twice, "f g u g u", 1, "22");
        rewritten(twice, "f g u g v", 0, "20 21 60 21 61");
        rewritten(twice, "f f u u f v v", 3, "22");
        rewritten(twice, "f u g u", 0, "20 60 21 60");
        String nest = "fun f 2;fun g 1;axiom a all x all y same f g x f y x g f y y;";
        rewritten(nest, "f g u f v u", 1, "21 20 61 61");
        rewritten(nest, "f g u f v v", 0, "20 21 60 20 61 61");
        // The inner one of two all with the same X binds it.
        rewritten("fun f 2;axiom a all x all x same f x x x;", "f u u", 1, "60");
        // Each X of a rule has a term anew at each place.
        String five = "all a all b all d all e all h ";
        for (String word : five.replace("all ", "").trim().split(" ")) {
            String rule = "fun f 2;fun g 1;fun c 0;axiom k " + five + "same g " + word + " c;";
            rewritten(rule, "f g u g v", 2, "20 22 22");
            rewritten(rule, "f g f u c g v", 2, "20 22 22");
            rule = "fun f 2;fun g 1;fun c 0;axiom k " + five + "same f " + word + " " + word + " " + word + ";";
            rewritten(rule, "f f u v f g v g v", 1, "20 20 60 61 21 61");
            rewritten(rule, "f f u u u", 2, "60");
        }
        rewritten("fun f 2;fun i 2;axiom k " + five + "same f a f b f d f e h i h i e i d i b a;",
                "f u f v f w f y i z z", 1, "21 21 64 64 21 63 21 62 21 61 60");
        // A free X of the term is no X of the rule.
        rewritten("fun f 1;fun c 0;axiom a same f c c;", "f x", 0, "20 60");
    }

    private static void spentByTimes() {
        String down = "fun c 0;fun d 0;fun s 1;fun f 1;axiom a all x same f s x f x;";
        rewritten(down, "f " + Bench.repeat("s ", 11) + "c", 11, "23 20");
        ProofBench x = bench.with("fun f 1;axiom a all x same f x f x;");
        bench.due("without end", Bench.rewrite(x, "f x"), -2);
        bench.due("no fault", Bench.fault(x), "0 at -1");
        bench.due("normal", Bench.normal(x), "");
        // Doubling: t(k) counts down from k by 2^k - 1 turns; 60 are just enough.
        String count = "fun o 0;fun i 1;fun z 1;fun f 1;axiom a all x same f i x z f x;axiom b all x same f z x i f x;";
        rewritten(count, "f i z i o", 3, "22 21 22 23 20");
        String add = ADD + "axiom c all x all y same f f x y o o;";
        rewritten(add, "f s s s s s s o o", 7, "21 21 21 21 21 21 20");
        steps(60);
        steps(61);
    }

    /** So many rewritings, of pairs of terms that grow shorter one after the other. */
    private static void steps(int times) {
        // g x y: the first runs down to nothing by one s a turn, and the next begins anew with ten.
        String theory = "fun o 0;fun s 1;fun g 2;axiom a all x all y same g s x y g x y;"
                + "axiom b all y same g o s y g s s s s s s s s s o y;";
        ProofBench x = bench.with(theory);
        // g with 9 s takes 9 turns to g o; ten turns for each s of the second.
        int tens = times / 10;
        int ones = times % 10;
        String text = "g " + Bench.repeat("s ", ones) + "o " + Bench.repeat("s ", tens) + "o";
        bench.due("rewrite " + text, Bench.rewrite(x, text), times > 60 ? -2 : times);
        bench.due("normal of " + text, Bench.normal(x), times > 60 ? "" : "22 20 20");
    }

    private static void spentByPieces() {
        String grow = "fun c 0;fun f 2;fun g 1;fun h 2;axiom a all x same g x f x x;";
        // 2 * 19 + 1 pieces are 39; 2 * 20 + 1 are one too many.
        String nine = "h h h c c h c c h h c c h c c";
        rewritten(grow, "g " + nine, 1, "21 " + pieces(nine) + " " + pieces(nine));
        String nineteen = "h h h h c c h c c h h c c h c c h c c";
        rewritten(grow, "g " + nineteen, 1, "21 " + pieces(nineteen) + " " + pieces(nineteen));
        ProofBench x = bench.with(grow);
        bench.due("41 pieces", Bench.rewrite(x, "g h h h h c c h c c h h c c h c c h h c c c"), -2);
        bench.due("normal", Bench.normal(x), "");
        bench.due("fault", Bench.fault(x), "0 at -1");
        // On the way, too, though it would become small again.
        x = bench.with("fun c 0;fun f 2;fun g 1;fun h 2;axiom a all x same g x f x x;axiom b all x all y same f x y c;");
        bench.due("small in the end", Bench.rewrite(x, "g h h h h c c h c c h h c c h c c h c c"), 2);
        bench.due("normal", Bench.normal(x), "20");
        bench.due("41 on the way", Bench.rewrite(x, "g h h h h c c h c c h h c c h c c h h c c c"), -2);
        bench.due("normal", Bench.normal(x), "");
    }

    private static String pieces(String text) {
        return text.replace("c", "20").replace("h", "23");
    }

    private static void spentByDepth() {
        String deep = "fun c 0;fun f 1;fun g 1;axiom a all x same g x f f f x;";
        rewritten(deep, Bench.repeat("f ", 9) + "g c", 1, Bench.repeat("21 ", 12) + "20");
        ProofBench x = bench.with(deep);
        bench.due("13 deep", Bench.rewrite(x, Bench.repeat("f ", 10) + "g c"), -2);
        bench.due("normal", Bench.normal(x), "");
        bench.due("12 deep in the end", Bench.rewrite(x, Bench.repeat("f ", 6) + "g g c"), 2);
        bench.due("13 deep on the way", Bench.rewrite(x, Bench.repeat("f ", 6) + "g g f c"), -2);
    }

    private static void whatIsNotNormal() {
        ProofBench x = new ProofBench();
        bench.due("normal of a new one", x.normal(0), -1);
        x = bench.with(ADD);
        bench.due("rewrite", Bench.rewrite(x, "f o s y"), 1);
        bench.due("normal(0)", x.normal(0), 21);
        bench.due("normal(1)", x.normal(1), 60);
        bench.due("normal(2)", x.normal(2), -1);
        bench.due("normal(-1)", x.normal(-1), -1);
        bench.due("normal(MIN)", x.normal(Integer.MIN_VALUE), -1);
        bench.due("normal(MAX)", x.normal(Integer.MAX_VALUE), -1);
        Bench.read(x, "same o o");
        Bench.prove(x, "same z;");
        x.drop();
        bench.due("it stays", Bench.normal(x), "21 60");
        Bench.rewrite(x, "f z u");
        bench.due("free ones are numbered anew", Bench.normal(x), "22 60 61");
    }
}
