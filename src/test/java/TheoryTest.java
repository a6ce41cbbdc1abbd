/** Promises 4 and 5: theories, and the faults of all texts. */
public final class TheoryTest {
    private static final Bench bench = new Bench();

    public static void main(String[] args) {
        soundTheories();
        tokens();
        tokensThatCannotStand();
        namesAndNumbers();
        tooManyOfASort();
        freeInAxioms();
        limitsOfFormulas();
        newTheoryEmptiesAll();
        faultLeavesAll();
        faultIsOfTheLatestText();
        bench.finish("TheoryTest");
    }

    private static void fault(String text, int kind, int place) {
        ProofBench x = new ProofBench();
        bench.due("theory " + text, Bench.theory(x, text), -1);
        bench.due("fault of " + text, Bench.fault(x), kind + " at " + place);
        bench.due("rels, funs, axioms after " + text, x.about(0) + x.about(1) + x.about(2), 0);
        bench.due("tape after " + text, x.about(5), 0);
    }

    private static void sound(String text, int axioms) {
        ProofBench x = new ProofBench();
        bench.due("theory " + text, Bench.theory(x, text), axioms);
        bench.due("fault of " + text, Bench.fault(x), "0 at -1");
        bench.due("axioms of " + text, x.about(2), axioms);
        bench.due("tape after " + text, x.about(5), 0);
    }

    private static void soundTheories() {
        sound("", 0);
        sound(" \n ", 0);
        sound("rel p 0;", 0);
        sound("rel p0;fun f1;axiom a p;axiom b all x same f x x;", 2);
        sound("rel\np\n0000\n;\n", 0);
        sound("rel abcdefgh 2;fun hgfedcba 0002;axiom samex false;", 1);
        sound("axiom a all x same x x;rel x 1;axiom b all y x y;", 2);
        sound("rel p 1;axiom p all x p x;", 1);
        sound("rel a 0;rel b 0;rel c 0;rel d 0;rel e 0;rel f 0;fun g 0;fun h 0;fun i 0;fun j 0;", 0);
        sound("axiom a false;axiom b false;axiom c false;axiom d false;"
                + "axiom e false;axiom f false;axiom g false;axiom h false;", 8);
        ProofBench x = bench.with("fun a 1;rel b 2;fun c 0;rel d 0;fun e 2;");
        Bench.read(x, "and b a c e c z d");
        bench.due("relations and functions by number", Bench.read(x), "1 10 20 21 22 21 60 11");
    }

    private static void tokens() {
        fault("Rel p 0;", 1, 0);
        fault("rel p 0,", 1, 7);
        fault("rel p 0\t;", 1, 7);
        fault("rel p 0\r;", 1, 7);
        fault("rel abcdefghi 0;", 1, 4);
        fault("rel p 00000;", 1, 6);
        fault("rel p 12345;", 1, 6);
        fault("rel p 0a;", 1, 6);
        fault("rel 0a 0;", 1, 4);
        fault("rel `p 0;", 1, 4);
        fault("rel p{ 0;", 1, 5);
        fault("rel p :", 1, 6);
        fault("rel p /", 1, 6);
        fault("_", 1, 0);
        // A longer word that begins like one that stands for itself is a word of its own.
        fault("relp 0;", 2, 0);
        fault("rel p 0;rel p0 1;", 3, 12);
        sound("rel relx 1;rel rels 1;rel falsex 0;rel fals 0;", 0);
        // No token is the least at one place, and what comes first counts.
        fault("rel p 3 _", 4, 6);
        fault("rel p _ 3", 1, 6);
    }

    private static void tokensThatCannotStand() {
        fault(";", 2, 0);
        fault("p", 2, 0);
        fault("12", 2, 0);
        fault("assume false;", 2, 0);
        fault("rel", 2, 3);
        fault("rel  \n", 2, 6);
        fault("rel p", 2, 5);
        fault("rel p 0", 2, 7);
        fault("rel p 0 ", 2, 8);
        fault("rel p ;", 2, 6);
        fault("rel p q 0;", 2, 6);
        fault("rel 1 0;", 2, 4);
        fault("rel ; 0;", 2, 4);
        fault("rel p 0 0;", 2, 8);
        fault("rel p 0;;", 2, 8);
        fault("axiom", 2, 5);
        fault("axiom a", 2, 7);
        fault("axiom a;", 2, 7);
        fault("axiom 1 false;", 2, 6);
        fault("axiom a false", 2, 13);
        fault("axiom a false false;", 2, 14);
        fault("axiom a x;", 2, 8);
        fault("axiom a and false;", 2, 17);
        fault("axiom a imp;", 2, 11);
        fault("axiom a not;", 2, 11);
        fault("axiom a all;", 2, 11);
        fault("axiom a all x;", 2, 13);
        fault("axiom a all false;", 2, 12);
        fault("axiom a some 3 false;", 2, 13);
        fault("axiom a same;", 2, 12);
        fault("axiom a same same x y;", 2, 13);
        fault("axiom a rel;", 2, 8);
        fault("rel p 1;axiom a all x p;", 2, 23);
        fault("rel p 1;axiom a all x p x x;", 2, 26);
        fault("rel p 1;axiom a all x p p;", 2, 24);
        fault("rel p 1;axiom a all p p p;", 2, 20);
        fault("fun f 1;axiom a all f false;", 2, 20);
        fault("fun f 0;axiom a f;", 2, 16);
        fault("rel p 0;axiom a same p p;", 2, 21);
        fault("axiom a p;rel p 0;", 2, 8);
        String own = "false and or imp all some same not rel fun axiom assume theorem both left right orleft orright "
                + "case apply deduce general special exist open replace absurd classic";
        for (String word : own.split(" ")) {
            if (word.length() <= 8) {
                fault("rel " + word + " 0;", 2, 4);
                fault("fun " + word + " 0;", 2, 4);
                fault("axiom " + word + " false;", 2, 6);
                fault("axiom a all " + word + " false;", 2, 12);
                fault("axiom a same " + word + " x;", 2, 13);
            }
        }
    }

    private static void namesAndNumbers() {
        fault("rel p 1;rel p 1;", 3, 12);
        fault("rel p 1;fun p 1;", 3, 12);
        fault("fun p 1;rel p 1;", 3, 12);
        fault("fun p 1;fun p 1;", 3, 12);
        fault("axiom a false;axiom a false;", 3, 20);
        fault("rel p 1;rel p 9;", 3, 12);
        fault("rel p 1;rel p _", 3, 12);
        fault("rel p 3;", 4, 6);
        fault("fun p 3;", 4, 6);
        fault("fun p 9999;", 4, 6);
        fault("rel p 3", 4, 6);
        sound("fun p 0002;", 0);
    }

    private static void tooManyOfASort() {
        String rels = "rel a 0;rel b 0;rel c 0;rel d 0;rel e 0;rel f 0;";
        fault(rels + "rel g 0;", 2, 48);
        fault(rels + "rel", 2, 48);
        fault(rels + "fun z 0;rel a 0;", 2, 56);
        String funs = "fun a 0;fun b 0;fun c 0;fun d 0;";
        fault(funs + "fun e 0;", 2, 32);
        fault(funs + "fun a 3;", 2, 32);
        String axioms = "axiom a false;axiom b false;axiom c false;axiom d false;"
                + "axiom e false;axiom f false;axiom g false;axiom h false;";
        fault(axioms + "axiom i false;", 2, 112);
        fault(axioms + "axiom a false;", 2, 112);
    }

    private static void freeInAxioms() {
        fault("rel p 1;axiom a p x;", 5, 18);
        fault("rel p 1;axiom a imp all x p x p x;", 5, 32);
        fault("axiom a all x same y x;", 5, 19);
        fault("axiom a same x y;", 5, 13);
        // What is found behind the first one does not come before it.
        fault("axiom a same x", 5, 13);
        fault("axiom a same x _", 5, 13);
        fault("axiom a same x y", 5, 13);
        fault("axiom a same x x;axiom a false;", 5, 13);
        // The 41st piece comes further on than the free one, also inside a not.
        fault("axiom a not and same x x " + Bench.wide(18) + ";", 5, 21);
        fault("axiom a not and " + Bench.wide(18) + " same x x;", 5, 16 + Bench.wide(18).length() + 6);
        fault("axiom a not and " + Bench.wide(18) + " or same x x;", 2, 16 + Bench.wide(18).length() + 9);
        fault("axiom a and same x x " + Bench.wide(18) + ";", 5, 17);
        sound("axiom a all x all y same x y;axiom b some x same x x;", 2);
    }

    private static void limitsOfFormulas() {
        sound("axiom a " + Bench.wide(20) + ";", 1);
        sound("axiom a not " + Bench.wide(19) + ";", 1);
        fault("axiom a " + Bench.wide(21) + ";", 2, 8 + Bench.wide(21).length() - 5);
        fault("axiom a not " + Bench.wide(20) + ";", 2, 12 + Bench.wide(20).length() - 5);
        fault("axiom a and " + Bench.wide(19) + " not false;", 2, 17 + Bench.wide(19).length());
        fault("axiom a " + Bench.repeat("and false ", 13) + "false;", 2, 8 + 13 * 10 - 6);
    }

    private static void newTheoryEmptiesAll() {
        ProofBench x = bench.with("fun f 1;axiom a all x same f x x;axiom b false;");
        Bench.prove(x, "axiom b;");
        x.keep();
        x.image(1);
        Bench.prove(x, "axiom b;left 0;");
        Bench.read(x, "same x x");
        Bench.rewrite(x, "f x");
        bench.due("refused", Bench.refused(x), "1 for 2");
        bench.due("normal", Bench.normal(x), "60");
        bench.due("theory", Bench.theory(x, "rel p 1;"), 0);
        bench.due("rels", x.about(0), 1);
        bench.due("funs", x.about(1), 0);
        bench.due("axioms", x.about(2), 0);
        bench.due("steps", x.about(3), 0);
        bench.due("theorems", x.about(4), 0);
        bench.due("pieces", x.about(6), 0);
        bench.due("refused", Bench.refused(x), "-1 for -1");
        bench.due("read", Bench.read(x), "");
        bench.due("letters", x.letters(), -1);
        bench.due("normal", Bench.normal(x), "");
        bench.due("theorem", x.theorem(0, 0), -1);
        bench.due("line", x.line(0, 0), -1);
        bench.due("back", x.back(1), -1);
        bench.due("hold", x.hold(1), 2);
    }

    private static void faultLeavesAll() {
        ProofBench x = bench.with("fun f 1;axiom a all x same f x x;axiom b false;");
        Bench.prove(x, "axiom b;");
        x.keep();
        x.image(1);
        Bench.prove(x, "axiom b;left 0;");
        Bench.read(x, "same x x");
        Bench.rewrite(x, "f x");
        bench.due("theory", Bench.theory(x, "rel p 1;fun q 0;axiom c false;rel p 1;"), -1);
        bench.due("tape", x.about(5), 0);
        bench.due("rels", x.about(0), 0);
        bench.due("funs", x.about(1), 1);
        bench.due("axioms", x.about(2), 2);
        bench.due("steps", x.about(3), 1);
        bench.due("theorems", x.about(4), 1);
        bench.due("refused", Bench.refused(x), "1 for 2");
        bench.due("read", Bench.read(x), "6 60 60");
        bench.due("normal", Bench.normal(x), "60");
        bench.due("theorem", Bench.theorem(x, 0), "0");
        bench.due("rules", x.rules(), 1);
        bench.due("back", x.back(1), 1);
        bench.due("prove", Bench.prove(x, "axiom a;"), 1);
        bench.due("its line", Bench.line(x, 0), "4 6 20 40 40");
        bench.due("f is a function still", Bench.read(x, "same f f y y"), 5);
        bench.due("q is an X still", Bench.read(x, "same q q"), 3);
        Bench.theory(x, "axiom d same u v;");
        bench.due("a formula has free ones, whatever an axiom had", Bench.read(x, "same u v"), 3);
        Bench.theory(x, "axiom d all u all v");
        bench.due("a formula has free ones, whatever was bound", Bench.read(x, "same u v"), 3);
        bench.due("its pieces", Bench.read(x), "6 60 61");
    }

    private static void faultIsOfTheLatestText() {
        ProofBench x = new ProofBench();
        bench.due("fault ahead of any text", Bench.fault(x), "0 at -1");
        Bench.theory(x, "rel");
        bench.due("fault of a theory", Bench.fault(x), "2 at 3");
        Bench.prove(x, "assume");
        bench.due("fault of a proof", Bench.fault(x), "2 at 6");
        Bench.read(x, "false x");
        bench.due("fault of a formula", Bench.fault(x), "2 at 6");
        Bench.rewrite(x, "_");
        bench.due("fault of a term", Bench.fault(x), "1 at 0");
        x.keep();
        x.drop();
        x.table();
        x.models(2);
        x.feed(0, 0, 0, 0, 0);
        x.end(0);
        bench.due("fault still", Bench.fault(x), "1 at 0");
        Bench.read(x, "false");
        bench.due("no fault of a formula", Bench.fault(x), "0 at -1");
        Bench.rewrite(x, "x y");
        bench.due("fault of a term and more", Bench.fault(x), "2 at 2");
        Bench.rewrite(x, "x");
        bench.due("no fault of a term", Bench.fault(x), "0 at -1");
        Bench.prove(x, "axiom a;");
        bench.due("fault of an axiom's name", Bench.fault(x), "6 at 6");
        Bench.prove(x, "left 0;");
        bench.due("a step that is refused is no fault", Bench.fault(x), "0 at -1");
        bench.due("fault(2)", x.fault(2), -1);
        bench.due("fault(-1)", x.fault(-1), -1);
        bench.due("fault(MIN)", x.fault(Integer.MIN_VALUE), -1);
        bench.due("fault(MAX)", x.fault(Integer.MAX_VALUE), -1);
    }
}
