/** Each limit of the document's parts 1 to 4: the last case that is still taken, and the first that is not. */
public final class LimitsTest {
    private static final Bench bench = new Bench();
    /** n, p, q: 10, 11, 12; c, g, h: 20, 21, 22. */
    private static final String THEORY = "rel n 0;rel p 1;rel q 2;fun c 0;fun g 1;fun h 2;axiom a n;";
    private static final String[] FORMULAS = {"n", "false", "p c", "q c c", "same c c", "not n", "and n n", "or n n", "imp n n",
        "all y n", "some y n", "p x", "q n n", "all n n", "not not not n"};
    private static final String[] TERMS = {"c", "g c", "h c c", "x", "g n"};

    private interface Act {
        int on(ProofBench x);
    }

    public static void main(String[] args) {
        fullTape();
        bytesBehindTheEnd();
        wordsAndNumbers();
        unlikeNames();
        linesOfEachSort();
        symbolsAreNoX();
        piecesOfFormulas();
        piecesWithNots();
        depthOfFormulas();
        quantifiers();
        limitsAtOnePlace();
        termsOfAllTexts();
        freeOnesOfAllTexts();
        freeOnesAreNumberedAnew();
        stepsOfAProof();
        piecesOfSteps();
        depthOfSteps();
        assumedByOneRule();
        assumedByTwoPremises();
        assumedByThreePremises();
        causesAheadOfTooMuch();
        lastOfEachSort();
        replacedInAFullRow();
        modelsThatAreGoneThrough();
        rewrittenRows();
        bench.finish("LimitsTest");
    }

    // A THEORY is a text of at most 1,600 bytes.

    private static void fullTape() {
        Act theory = o -> o.theory();
        fullTape("rel p 0;axiom a", " p;", 1, "", theory);
        fullTape("rel p 0;axiom a", " p", -1, "2 at 1600", theory);
        fullTape("rel p 0;axiom a", " p,", -1, "1 at 1599", theory);
        fullTape("rel p 0;axiom a", " q;", -1, "2 at 1598", theory);
        fullTape("rel p 0;rel", " p", -1, "3 at 1599", theory);
        fullTape("rel p", " 3", -1, "4 at 1599", theory);
        fullTape("axiom a same", " x", -1, "5 at 1599", theory);
        fullTape("rel abcdefgh 0;axiom a", " abcdefgh", -1, "2 at 1600", theory);
        fullTape("rel abcdefgh 0;axiom a", " abcdefghi", -1, "1 at 1591", theory);
        fullTape("rel p", " 00000", -1, "1 at 1595", theory);
        fullTape("", "", 0, "", theory);
        Act prove = o -> o.prove();
        fullTape("assume", " false;", 1, "", prove);
        fullTape("assume", " false", -1, "2 at 1600", prove);
        fullTape("assume false;", "axiom a", -1, "6 at 1599", prove);
        Act read = o -> o.read();
        fullTape("not", " false", 3, "", read);
        fullTape("and false", "not", -1, "2 at 1600", read);
        fullTape("false", "x", -1, "2 at 1599", read);
        Act rewrite = o -> o.rewrite();
        fullTape("", "x", 0, "", rewrite);
        fullTape("x", "y", -1, "2 at 1599", rewrite);
        fullTape("", "", -1, "2 at 1600", rewrite);
    }

    /** All of the tape: two texts, blanks between them. */
    private static void fullTape(String first, String last, int answer, String fault, Act act) {
        ProofBench x = new ProofBench();
        Bench.put(x, first + Bench.repeat(" ", 1600 - first.length() - last.length()) + last);
        bench.due("bytes", x.about(5), 1600);
        bench.due(first + " .. " + last, act.on(x), answer);
        bench.due("fault of " + first + " .. " + last, Bench.fault(x), fault.isEmpty() ? "0 at -1" : fault);
        bench.due("bytes behind it", x.about(5), 0);
    }

    /** What was fed and cut off by end is no part of the text, nor what an earlier text left behind it. */
    private static void bytesBehindTheEnd() {
        ProofBench x = bench.with(THEORY);
        Bench.put(x, "nn");
        x.end(1);
        bench.due("a word that is cut off", x.read(), 1);
        Bench.put(x, "assume n;left 0;");
        x.end(9);
        bench.due("a proof that is cut off", x.prove(), 1);
        Bench.put(x, "theorem 00001;");
        x.end(12);
        bench.due("a number that is cut off", x.prove(), -1);
        bench.due("its fault", Bench.fault(x), "2 at 12");
        Bench.put(x, "theorem 0x");
        x.end(9);
        bench.due("a letter that is cut off", x.prove(), -1);
        bench.due("its fault", Bench.fault(x), "2 at 9");
        Bench.put(x, "n     not a");
        x.end(5);
        bench.due("words that are cut off", x.read(), 1);
        Bench.put(x, "all x p x");
        x.end(0);
        bench.due("all is cut off", x.read(), -1);
        bench.due("its fault", Bench.fault(x), "2 at 0");
        Bench.put(x, "p");
        bench.due("a shorter text", x.rewrite(), -1);
        bench.due("its fault", Bench.fault(x), "2 at 0");
    }

    // Words (a .. z, 8 at most), N (1 to 4 digits).

    private static void wordsAndNumbers() {
        theory("rel abcdefgh 0;", 0);
        theoryFault("rel abcdefghi 0;", 1, 4);
        theory("rel zzzzzzzz 0;axiom aaaaaaaa zzzzzzzz;", 1);
        theory("rel p 2;", 0);
        theory("rel p 02;", 0);
        theory("rel p 002;", 0);
        theory("rel p 0002;", 0);
        theoryFault("rel p 00002;", 1, 6);
        theoryFault("rel p 3;", 4, 6);
        theoryFault("rel p 0003;", 4, 6);
        theoryFault("fun p 9999;", 4, 6);
        theoryFault("fun p 10000;", 1, 6);
        refused("assume n;left 9999;", 1);
        refused("assume n;both 0 1;", 1);
        comesTo("assume n;both 0000 000;", "1 10 10");
        proofFault("assume n;left 00000;", 1, 14);
        refused("theorem 9999;", 1);
        // Bytes beside a .. z, 0 .. 9, the two blanks.
        for (int sign = 0; sign < 256; sign++) {
            boolean isBlank = sign == 32 || sign == 10;
            boolean isLetter = sign >= 'a' && sign <= 'z';
            ProofBench x = bench.with(THEORY);
            int pieces = Bench.read(x, "p " + (char) sign + "c");
            if (isBlank || isLetter) {
                bench.due("the byte " + sign, pieces, 2);
            } else {
                bench.due("the byte " + sign, pieces, -1);
                bench.due("fault of the byte " + sign, Bench.fault(x), sign == ';' ? "2 at 2" : "1 at 2");
            }
        }
    }

    /** One begins as the other does, has the same letters, is another only in its first or last one. */
    private static void unlikeNames() {
        String[] names = {"a", "aa", "aaa", "aaaaaaaa", "b", "bb", "ba", "ab", "zz", "az"};
        for (int i = 0; i + 5 < names.length; i++) {
            StringBuilder rels = new StringBuilder();
            StringBuilder axioms = new StringBuilder();
            for (int k = 0; k < 6; k++) {
                rels.append("rel ").append(names[i + k]).append(" 0;");
                axioms.append("axiom ").append(names[i + k]).append(' ').append(names[i + k]).append(';');
            }
            ProofBench x = bench.with(rels.toString() + axioms);
            for (int k = 0; k < 6; k++) {
                bench.due("read " + names[i + k], Bench.read(x, names[i + k]), 1);
                bench.due("piece of " + names[i + k], x.piece(0), 10 + k);
                bench.due("prove by " + names[i + k], Bench.prove(x, "axiom " + names[i + k] + ";"), 1);
                bench.due("leans", x.step(0, 2), 1 << k);
            }
        }
        ProofBench x = new ProofBench();
        bench.due("free ones", Bench.read(x, "and same a aa and same aaa b and same bb ba same z az"), 15);
        bench.due("their pieces", Bench.read(x), "1 6 60 61 1 6 62 63 1 6 64 65 6 66 67");
        bench.due("bound ones", Bench.read(x, "all a all aa all ba all abcdefgh all hbcdefgh and same a aa and same ba a "
                + "same abcdefgh hbcdefgh"), 16);
        bench.due("their pieces", Bench.read(x), "4 4 4 4 4 1 6 44 43 1 6 42 44 6 41 40");
    }

    // At most 6 RELS, 4 FUNS, 8 AXIOMS.

    private static void linesOfEachSort() {
        String rels = "rel a 0;rel b 1;rel d 2;rel e 0;rel f 1;rel g 2;";
        String funs = "fun h 0;fun i 1;fun j 2;fun k 0;";
        String axioms = "axiom a a;axiom b all x b x;axiom c d h k;axiom d e;axiom e f h;axiom f g h k;axiom g same h k;"
                + "axiom h same i h j k h;";
        String all = rels + funs + axioms;
        theory(all, 8);
        theory(funs + rels + axioms, 8);
        for (String line : new String[] {"rel z 0;", "fun z 0;", "axiom z false;", "rel", "fun", "axiom", "rel a 9;", "axiom a"}) {
            theoryFault(all + line, 2, all.length());
        }
        theoryFault(all + ";", 2, all.length());
        theoryFault(all + "_", 1, all.length());
        theory(rels, 0);
        theoryFault(rels + "rel z 0;", 2, rels.length());
        theory(rels + "fun z 0;axiom z false;", 1);
        theory(funs, 0);
        theoryFault(funs + "fun z 0;", 2, funs.length());
        theory(funs + "rel z 0;axiom z false;", 1);
        ProofBench x = bench.with(all);
        bench.due("rels", x.about(0), 6);
        bench.due("funs", x.about(1), 4);
        bench.due("axioms", x.about(2), 8);
        bench.due("the last ones", Bench.read(x, "and g h k f j h k"), 8);
        bench.due("their pieces", Bench.read(x), "1 15 20 23 14 22 20 23");
        bench.due("the last axiom", Bench.prove(x, "axiom h;"), 1);
        bench.due("its line", Bench.line(x, 0), "6 21 20 22 23 20");
        bench.due("its bit", x.step(0, 2), 128);
        // What an earlier theory had, that has gone, is told no more.
        bench.due("theory", Bench.theory(x, funs), 0);
        bench.due("theory", Bench.theory(x, "rel h 0;fun a 0;"), 0);
        bench.due("rels", x.about(0), 1);
        bench.due("funs", x.about(1), 1);
        bench.due("axioms", x.about(2), 0);
        bench.due("theory", Bench.theory(x, all), 8);
        bench.due("theory", Bench.theory(x, all), 8);
        bench.due("theory", Bench.theory(x, "axiom a false;rel i 0;" + Bench.repeat(" ", 9)), 1);
        bench.due("rels", x.about(0), 1);
        bench.due("funs", x.about(1), 0);
        bench.due("axioms", x.about(2), 1);
        bench.due("models", x.models(3), 2);
        // Nor by another line than the one that told it.
        for (int turn = 0; turn < 3; turn++) {
            bench.due("theory", Bench.theory(x, all), 8);
            bench.due("theory", Bench.theory(x, turn == 2 ? "" : all), turn == 2 ? 0 : 8);
            bench.due("theory", Bench.theory(x, "rel a 0;rel b 1;fun h 0;axiom a a;"), 1);
            bench.due("a relation that has gone", Bench.read(x, turn == 0 ? "d h h" : turn == 1 ? "e" : "g h h"), -1);
            bench.due("its fault", Bench.fault(x), "2 at 0");
            bench.due("functions that have gone", Bench.read(x, turn == 0 ? "same i j" : turn == 1 ? "same j k" : "same k i"), 3);
            bench.due("their pieces", Bench.read(x), "6 60 61");
            bench.due("an axiom that has gone", Bench.prove(x, turn == 0 ? "axiom b;" : turn == 1 ? "axiom c;" : "axiom h;"), -1);
            bench.due("its fault", Bench.fault(x), "6 at 6");
            bench.due("what is there", Bench.prove(x, "axiom a;assume b h;"), 2);
        }
        // A theory with a fault leaves nothing behind for the next one.
        bench.due("fault", Bench.theory(x, "rel a 0;fun b 0;axiom a false;_"), -1);
        bench.due("theory", Bench.theory(x, "rel b 0;fun a 0;axiom a not false;"), 1);
        bench.due("rels", x.about(0), 1);
        bench.due("funs", x.about(1), 1);
        bench.due("axioms", x.about(2), 1);
    }

    private static void symbolsAreNoX() {
        theory("axiom a all x same x x;rel x 1;axiom b all y x y;", 2);
        theoryFault("axiom a all x same x x;rel x 1;axiom b all x x x;", 2, 43);
        theoryFault("axiom a all x same x x;rel x 1;axiom b all y same x y;", 2, 50);
        theory("axiom a all x same x x;fun x 0;axiom b all y same x y;", 2);
        theoryFault("axiom a all x same x x;fun x 0;axiom b some x false;", 2, 44);
        theoryFault("axiom a all x same x x;fun x 1;axiom b all y same x;", 2, 51);
        // An axiom's name is an X, a relation's may be an axiom's, too, whichever is told first.
        theory("axiom a false;rel a 0;axiom b false;fun b 1;fun d 0;axiom d a;", 3);
        ProofBench x = bench.with("rel p 1;axiom p all x p x;axiom x all y all x false;");
        bench.due("prove", Bench.prove(x, "axiom p;axiom x;special 0 x;same x;general 3 x;"), 5);
        bench.due("line 2", Bench.line(x, 2), "10 60");
        bench.due("line 4", Bench.line(x, 4), "4 6 40 40");
    }

    // A FORMULA: at most 40 PIECES.

    private static void piecesOfFormulas() {
        // 39 pieces, and a formula that is still to come.
        String nearly = "all x and " + Bench.wide(19) + " ";
        sound(nearly + "n", 40);
        sound(nearly + "false", 40);
        fault(nearly + "p c", 2, nearly.length() + 2);
        fault(nearly + "p x", 2, nearly.length() + 2);
        fault(nearly + "q c c", 2, nearly.length() + 2);
        fault(nearly + "same c c", 2, nearly.length() + 5);
        fault(nearly + "and n n", 2, nearly.length() + 4);
        fault(nearly + "or n n", 2, nearly.length() + 3);
        fault(nearly + "imp n n", 2, nearly.length() + 4);
        fault(nearly + "all y n", 2, nearly.length() + 6);
        fault(nearly + "some y n", 2, nearly.length() + 7);
        fault(nearly + "not n", 2, nearly.length());
        fault(nearly + "all n n", 2, nearly.length() + 4);
        fault(nearly + "all _ n", 1, nearly.length() + 4);
        // 40 pieces, and a formula or a term that is still to come.
        String full = "all x some y and " + Bench.wide(19) + " ";
        for (String formula : FORMULAS) {
            fault(full + formula, 2, full.length());
        }
        fault(full + "_", 1, full.length());
        fault(full + "x", 2, full.length());
        fault(full + "abcdefghi", 1, full.length());
        for (String term : TERMS) {
            fault(nearly + "p " + term, 2, nearly.length() + 2);
        }
        fault(nearly + "p 0x", 1, nearly.length() + 2);
        // 38 pieces: a relation and its term make 40.
        String two = "and " + Bench.wide(19) + " ";
        sound(two + "p c", 40);
        fault(two + "p g c", 2, two.length() + 4);
        fault(two + "q c c", 2, two.length() + 4);
        fault(two + "same c c", 2, two.length() + 7);
        sound(two + "all x n", 40);
        fault(two + "and n n", 2, two.length() + 6);
        // A full row of terms.
        sound("p h " + flat(19) + " c", 40);
        fault("p g h " + flat(19) + " c", 2, 6 + flat(19).length() + 1);
        sound("all x p " + flat(19).replace('c', 'x'), 39);
        sound("same " + flat(10) + " g " + flat(10), 40);
        fault("same g " + flat(10) + " g " + flat(10), 2, "same g ".length() + flat(10).length() + 3 + flat(10).length() - 1);
    }

    /** A term of 2 * leaves - 1 pieces, as flat as can be. */
    private static String flat(int leaves) {
        if (leaves == 1) {
            return "c";
        }
        int half = leaves / 2;
        return "h " + flat(leaves - half) + " " + flat(half);
    }

    private static void piecesWithNots() {
        sound("all x not " + Bench.wide(19), 40);
        fault("all x some y not " + Bench.wide(19), 2, "all x some y not ".length() + Bench.wide(19).length() - 5);
        sound("all x not not " + Bench.wide(18), 40);
        fault("all x all y not not " + Bench.wide(18), 2, "all x all y not not ".length() + Bench.wide(18).length() - 5);
        String two = "and " + Bench.wide(19) + " ";
        fault(two + "not n", 2, two.length() + 4);
        fault(two + "not false", 2, two.length() + 4);
        fault(two + "not not n", 2, two.length() + 4);
        fault(two + "not _", 1, two.length() + 4);
        fault(two + "not x", 2, two.length() + 4);
        // The false has its place as soon as the not stands there.
        String three = "and p c and " + Bench.wide(17) + " ";
        sound(three + "not n", 40);
        fault(three + "not p c", 2, three.length() + 6);
        fault(three + "not not n", 2, three.length() + 4);
        sound("not and n and " + Bench.wide(17) + " p c", 40);
        fault("not and n and " + Bench.wide(17) + " q c c", 2, "not and n and ".length() + Bench.wide(17).length() + 5);
        sound("and not n and not n " + Bench.wide(16), 39);
        sound("all x and not n and not n " + Bench.wide(16), 40);
        fault("all x and not n and not p x " + Bench.wide(16), 2, "all x and not n and not p x ".length()
                + Bench.wide(16).length() - 5);
    }

    // An f or t within 12 others at most.

    private static void depthOfFormulas() {
        String[] ops = {"or n ", "and n ", "imp n ", "imp false "};
        for (String op : ops) {
            String twelve = Bench.repeat(op, 12);
            sound(twelve + "n", 25);
            sound(twelve + "false", 25);
            fault(twelve + "p c", 2, twelve.length() + 2);
            fault(twelve + "p x", 2, twelve.length() + 2);
            fault(twelve + "q c c", 2, twelve.length() + 2);
            fault(twelve + "same c c", 2, twelve.length() + 5);
            fault(twelve + "and n n", 2, twelve.length() + 4);
            fault(twelve + "or n n", 2, twelve.length() + 3);
            fault(twelve + "imp n n", 2, twelve.length() + 4);
            fault(twelve + "all y n", 2, twelve.length() + 6);
            fault(twelve + "some y n", 2, twelve.length() + 7);
            fault(twelve + "not n", 2, twelve.length());
            fault(twelve + "not _", 2, twelve.length());
            fault(twelve + "_", 1, twelve.length());
            String first = op.substring(0, op.indexOf(' ') + 1);
            for (String formula : FORMULAS) {
                fault(twelve + first + formula, 2, twelve.length() + first.length());
            }
            fault(twelve + first + "_", 1, twelve.length() + first.length());
            String left = Bench.repeat(first, 12);
            sound(left + "n" + Bench.repeat(" n", 12), 25);
            fault(left + first + "n" + Bench.repeat(" n", 13), 2, left.length() + first.length());
        }
        sound(Bench.repeat("not ", 12) + "n", 25);
        fault(Bench.repeat("not ", 13) + "n", 2, 48);
        fault(Bench.repeat("not ", 13) + "_", 2, 48);
        sound(Bench.repeat("not ", 11) + "p c", 24);
        fault(Bench.repeat("not ", 12) + "p c", 2, 50);
        sound(Bench.repeat("all x ", 5) + Bench.repeat("or n ", 7) + "n", 20);
        fault(Bench.repeat("some x ", 5) + Bench.repeat("or n ", 8) + "n", 2, 35 + 38);
        // Terms.
        sound("p " + Bench.repeat("g ", 11) + "c", 13);
        fault("p " + Bench.repeat("g ", 12) + "c", 2, 26);
        fault("p " + Bench.repeat("g ", 12) + "g c", 2, 26);
        fault("p " + Bench.repeat("g ", 12) + "_", 1, 26);
        sound("same c " + Bench.repeat("g ", 11) + "c", 14);
        fault("same c " + Bench.repeat("g ", 12) + "c", 2, 7 + 24);
        sound("q c " + Bench.repeat("h c ", 11) + "c", 25);
        fault("q c " + Bench.repeat("h c ", 12) + "c", 2, 4 + 46);
        sound(Bench.repeat("or n ", 11) + "p c", 24);
        fault(Bench.repeat("or n ", 11) + "p g c", 2, 59);
        sound(Bench.repeat("or n ", 10) + "all x same x x", 24);
        sound(Bench.repeat("or n ", 5) + Bench.repeat("all x ", 5) + "p g x", 18);
        fault(Bench.repeat("or n ", 5) + Bench.repeat("all x ", 5) + "p g g x", 2, 25 + 30 + 6);
    }

    // An all or some within 4 others of these at most.

    private static void quantifiers() {
        sound("all x all x all x all x all x n", 6);
        sound("all x or n some y not all z and n all u some v n", 12);
        for (String five : new String[] {"all x all x all x all x all x ", "some x some y some z some u some v ",
            "all x some x all y some y all z ", "all x or n some y not all z and n all u some v "}) {
            for (String sixth : new String[] {"all w n", "some x n", "all n n", "all 3", "some _"}) {
                fault(five + sixth, 2, five.length());
            }
            fault(five + "and n all w n", 2, five.length() + 6);
            fault(five + "and p c some w n", 2, five.length() + 8);
            fault(five + "imp all w n n", 2, five.length() + 4);
        }
        String five = "all x some x all x some x all x n";
        sound("and " + five + " " + five, 13);
        sound("and " + five + " or " + five + " " + five, 20);
        fault("all y and n " + five, 2, 12 + five.lastIndexOf("all"));
        fault("and " + five + " all y " + five, 2, 5 + five.length() + 6 + five.lastIndexOf("all"));
        // The sixth is told ahead of what is too deep further on.
        fault(Bench.repeat("all x ", 6) + Bench.repeat("or n ", 12) + "n", 2, 30);
        fault(Bench.repeat("or n ", 8) + Bench.repeat("all x ", 6) + "n", 2, 40 + 30);
        fault(Bench.repeat("or n ", 9) + Bench.repeat("all x ", 6) + "n", 2, 45 + 24);
    }

    /** Of the faults at one place the least; of all faults the first by its place. */
    private static void limitsAtOnePlace() {
        String full = "axiom k all x and " + Bench.wide(19) + " p ";
        theoryFault(THEORY + full + "y;", 2, THEORY.length() + full.length());
        theoryFault(THEORY + full + "_", 1, THEORY.length() + full.length());
        String room = "axiom k and " + Bench.wide(19) + " p ";
        theoryFault(THEORY + room + "y;", 5, THEORY.length() + room.length());
        theoryFault(THEORY + room + "g y;", 2, THEORY.length() + room.length() + 2);
        theoryFault(THEORY + room + "y " + full, 5, THEORY.length() + room.length());
        String deep = "axiom k p " + Bench.repeat("g ", 12);
        theoryFault(THEORY + deep + "y;", 2, THEORY.length() + deep.length());
        theoryFault(THEORY + deep + "_", 1, THEORY.length() + deep.length());
        String nearlyDeep = "axiom k p " + Bench.repeat("g ", 11);
        theoryFault(THEORY + nearlyDeep + "y;", 5, THEORY.length() + nearlyDeep.length());
        theoryFault(THEORY + "axiom a _", 3, THEORY.length() + 6);
        theoryFault(THEORY + "axiom a y", 3, THEORY.length() + 6);
        theoryFault(THEORY + "rel c 7", 3, THEORY.length() + 4);
        theoryFault(THEORY + "rel z 7 _", 4, THEORY.length() + 6);
        theoryFault(THEORY + "axiom k same y _", 5, THEORY.length() + 13);
        theoryFault(THEORY + "axiom k p y;rel n 0;", 5, THEORY.length() + 10);
        proofFault("axiom k _", 6, 6);
        proofFault("axiom k;axiom a;assume " + Bench.wide(21), 6, 6);
        proofFault("assume " + Bench.wide(21) + ";axiom k;", 2, 7 + Bench.wide(21).length() - 5);
        // A step that is refused is no fault, but faults behind it are.
        proofFault("left 9;axiom k;", 6, 13);
    }

    // A TERM: as a formula; it stands in texts of its own, and in the steps special, exist, same.

    private static void termsOfAllTexts() {
        term("g h " + flat(19) + " c", 40);
        termFault("g g h " + flat(19) + " c", 6 + flat(19).length() + 1);
        termFault("h " + flat(10) + " h " + flat(10) + " h c c", 6 + 2 * flat(10).length());
        term(Bench.repeat("g ", 12) + "c", 13);
        term(Bench.repeat("g ", 12) + "x", 13);
        termFault(Bench.repeat("g ", 13) + "c", 26);
        termFault(Bench.repeat("g ", 13) + "g c", 26);
        termFault(Bench.repeat("g ", 13) + "n", 26);
        term(Bench.repeat("h c ", 12) + "c", 25);
        termFault(Bench.repeat("h c ", 13) + "c", 50);
        term(Bench.repeat("h ", 12) + "c" + Bench.repeat(" c", 12), 25);
        termFault(Bench.repeat("h ", 13) + "c" + Bench.repeat(" c", 13), 26);
    }

    private static void term(String text, int pieces) {
        ProofBench x = bench.with(THEORY);
        bench.due("rewrite " + text, Bench.rewrite(x, text), 0);
        bench.due("pieces of " + text, Bench.normal(x).split(" ").length, pieces);
        for (String step : new String[] {"special 0 T;", "exist 0 T n;", "same T;"}) {
            bench.due("prove " + step + " of " + text, Bench.prove(x, "assume n;" + step.replace("T", text)) >= 1 ? 1 : 0, 1);
            bench.due("its fault", Bench.fault(x), "0 at -1");
        }
    }

    private static void termFault(String text, int place) {
        ProofBench x = bench.with(THEORY);
        bench.due("rewrite " + text, Bench.rewrite(x, text), -1);
        bench.due("fault of " + text, Bench.fault(x), "2 at " + place);
        for (String step : new String[] {"special 0 T;", "exist 0 T n;", "same T;"}) {
            bench.due("prove " + step + " of " + text, Bench.prove(x, step.replace("T", text)), -1);
            bench.due("its fault", Bench.fault(x), "2 at " + (step.indexOf('T') + place));
        }
    }

    // FREE ones: 12 at most, a 13th: 2 there.

    private static void freeOnesOfAllTexts() {
        String[] x = {"b", "d", "e", "f", "i", "j", "k", "l", "m", "o", "r", "s"};
        StringBuilder formula = new StringBuilder();
        StringBuilder term = new StringBuilder();
        for (int i = 0; i < 10; i++) {
            formula.append("and p ").append(x[i]).append(' ');
            term.append("h ").append(x[i]).append(' ');
        }
        ProofBench o = bench.with(THEORY);
        bench.due("formula with 12", Bench.read(o, formula + "q r s"), 33);
        bench.due("its last pieces", o.piece(31) * 100 + o.piece(32), 7071);
        bench.due("formula with 13", Bench.read(o, formula + "and q r s p t"), -1);
        bench.due("fault", Bench.fault(o), "2 at " + (formula.length() + 12));
        bench.due("formula with 12, told again", Bench.read(o, formula + "and q r s q s b"), 37);
        bench.due("formula with 12 and a bound one", Bench.read(o, "and all t p t " + formula + "q r s"), 37);
        bench.due("formula with 12 and a bound one that is free, too", Bench.read(o, "and all s p s " + formula + "q r s"), 37);
        bench.due("its bound one and its last free one", o.piece(3) * 100 + o.piece(36), 4071);
        bench.due("term with 12", Bench.rewrite(o, term + "h r s"), 0);
        bench.due("its last pieces", o.normal(21) * 100 + o.normal(22), 7071);
        bench.due("term with 13", Bench.rewrite(o, term + "h r h s t"), -1);
        bench.due("fault", Bench.fault(o), "2 at " + (term.length() + 8));
        // In a proof all count together, in whatever step they are told.
        String ten = "assume " + formula + "n;";
        String[] steps = {"assume p T;", "orleft 0 p T;", "orright 0 p T;", "deduce 0 p T;", "special 0 T;", "exist 0 T n;",
            "exist 0 c p T;", "same T;", "replace 0 0 p T;", "absurd 0 p T;", "classic 0 p T;", "general 0 T;", "open 0 0 T;"};
        for (String step : steps) {
            String twelve = ten + step.replace("T", "r") + step.replace("T", "s");
            o = bench.with(THEORY);
            bench.due("12 in " + step, Bench.prove(o, twelve) >= 1 ? 1 : 0, 1);
            bench.due("fault", Bench.fault(o), "0 at -1");
            bench.due("12, told again, in " + step, Bench.prove(o, twelve + step.replace("T", "b")) >= 1 ? 1 : 0, 1);
            bench.due("fault", Bench.fault(o), "0 at -1");
            bench.due("13 in " + step, Bench.prove(o, twelve + step.replace("T", "t")), -1);
            bench.due("fault", Bench.fault(o), "2 at " + (twelve.length() + step.indexOf('T')));
        }
    }

    private static void freeOnesAreNumberedAnew() {
        ProofBench o = bench.with(THEORY);
        Bench.prove(o, "assume p b;assume p d;");
        bench.due("read", Bench.read(o, "q d b"), 3);
        bench.due("its pieces", Bench.read(o), "12 60 61");
        bench.due("rewrite", Bench.rewrite(o, "h e d"), 0);
        bench.due("its pieces", Bench.normal(o), "22 60 61");
        bench.due("prove", Bench.prove(o, "assume p d;assume p b;"), 2);
        bench.due("its lines", Bench.line(o, 0) + ", " + Bench.line(o, 1), "11 60, 11 61");
        // Of texts with a fault nothing is left.
        bench.due("read", Bench.read(o, "q u v v"), -1);
        bench.due("read", Bench.read(o, "q v u"), 3);
        bench.due("its pieces", Bench.read(o), "12 60 61");
        bench.due("read", Bench.read(o, "all u all v q u v v"), -1);
        bench.due("read", Bench.read(o, "q v u"), 3);
        bench.due("its pieces", Bench.read(o), "12 60 61");
    }

    // 40 STEPS at most.

    private static void stepsOfAProof() {
        String[] steps = {"assume n;", "axiom a;", "same c;", "theorem 3;", "left 0;"};
        for (String step : steps) {
            String forty = Bench.repeat("axiom a;", 39) + step;
            ProofBench x = bench.with(THEORY);
            Bench.prove(x, forty);
            bench.due("fault of 40", Bench.fault(x), "0 at -1");
            bench.due("prove 41", Bench.prove(x, forty + step), -1);
            bench.due("fault of 41", Bench.fault(x), "2 at " + forty.length());
            bench.due("the steps that were", x.about(3), step.equals("theorem 3;") || step.equals("left 0;") ? 39 : 40);
        }
        ProofBench x = bench.with(THEORY);
        StringBuilder chain = new StringBuilder("axiom a;");
        for (int i = 0; i < 39; i++) {
            chain.append(i % 2 == 0 ? "deduce " + i + " n;" : "apply " + i + " " + (i - 1) + ";");
        }
        bench.due("a chain of 40", Bench.prove(x, chain.toString()), 40);
        bench.due("needs of the last", x.needs(39), (1L << 40) - 1);
        bench.due("needs of the first", x.needs(0), 1);
        bench.due("needs of 31", x.needs(31), (1L << 32) - 1);
        bench.due("needs of 40", x.needs(40), -1);
        bench.due("keep", x.keep(), 0);
        bench.due("leans", x.leans(0, 0), 1);
    }

    // Cause 5: more than 40 PIECES, a row too deep.

    private static void piecesOfSteps() {
        String nineteen = Bench.wide(10);
        String twenty = "all x " + Bench.wide(10);
        String[] joins = {"assume A;assume B;both 0 1;", "assume A;orleft 0 B;", "assume A;orright 0 B;", "assume A;deduce 0 B;"};
        for (String join : joins) {
            pieces(join.replace("A", nineteen).replace("B", nineteen), 39);
            pieces(join.replace("A", nineteen).replace("B", twenty), 40);
            pieces(join.replace("A", twenty).replace("B", nineteen), 40);
            refused(join.replace("A", twenty).replace("B", twenty), 5);
        }
        pieces("assume " + Bench.wide(20) + ";general 0 u;", 40);
        refused("assume all x " + Bench.wide(20) + ";general 0 u;", 5);
        pieces("assume all x and p x " + Bench.wide(18) + ";special 0 g g c;", 40);
        refused("assume all x and p x " + Bench.wide(18) + ";special 0 g g g c;", 5);
        refused("assume all x and p x " + Bench.wide(18) + ";special 0 h c h c c;", 5);
        pieces("assume all x and q x x " + Bench.wide(17) + ";special 0 g c;", 1 + 1 + 4 + 33);
        refused("assume all x and q x x " + Bench.wide(17) + ";special 0 g g c;", 5);
        pieces("assume all x q x x;special 0 " + flat(10) + ";", 39);
        refused("assume all x q x x;special 0 g " + flat(10) + ";", 5);
        pieces("same " + flat(10) + ";", 39);
        refused("same g " + flat(10) + ";", 5);
        refused("same " + flat(20) + ";", 5);
        // What another step came to stays, a full row among them.
        pieces("assume all x " + Bench.wide(20) + ";special 0 c;", 39);
        refused("assume all x " + Bench.wide(20) + ";both 0 0;", 5);
    }

    private static void pieces(String text, int pieces) {
        ProofBench x = bench.with(THEORY);
        int steps = text.split(";").length;
        bench.due("prove " + text, Bench.prove(x, text), steps);
        bench.due("pieces of " + text, x.step(steps - 1, 0), pieces);
        bench.due("the last", x.line(steps - 1, pieces - 1) >= 0 ? 1 : 0, 1);
        bench.due("none behind", x.line(steps - 1, pieces), -1);
    }

    private static void depthOfSteps() {
        String eleven = Bench.repeat("or n ", 11) + "n";
        String twelve = Bench.repeat("or n ", 12) + "n";
        String[] joins = {"assume A;assume B;both 0 1;", "assume A;orleft 0 B;", "assume A;orright 0 B;", "assume A;deduce 0 B;"};
        for (String join : joins) {
            pieces(join.replace("A", eleven).replace("B", "n"), 25);
            pieces(join.replace("A", "n").replace("B", eleven), 25);
            refused(join.replace("A", twelve).replace("B", "n"), 5);
            refused(join.replace("A", "n").replace("B", twelve), 5);
        }
        pieces("assume " + eleven + ";general 0 u;", 24);
        refused("assume " + twelve + ";general 0 u;", 5);
        String left = Bench.repeat("or ", 12) + "n" + Bench.repeat(" n", 12);
        refused("assume " + left + ";general 0 u;", 5);
        refused("assume " + left + ";deduce 0 n;", 5);
        refused("assume " + left + ";orleft 0 n;", 5);
        refused("assume all x q x c;special 0 " + Bench.repeat("g ", 12) + "c;", 5);
        pieces("same " + Bench.repeat("g ", 11) + "c;", 25);
        refused("same " + Bench.repeat("g ", 12) + "c;", 5);
        pieces("assume all x p x;special 0 " + Bench.repeat("g ", 11) + "c;", 13);
        refused("assume all x p x;special 0 " + Bench.repeat("g ", 12) + "c;", 5);
        pieces("assume all x or n or n p x;special 0 " + Bench.repeat("g ", 9) + "c;", 5 + 10);
        refused("assume all x or n or n p x;special 0 " + Bench.repeat("g ", 10) + "c;", 5);
        // All, some: five within one another.
        String five = "all x some x all x some x all x n";
        pieces("assume " + five.substring(6) + ";general 0 u;", 6);
        refused("assume " + five + ";general 0 u;", 5);
        refused("assume and n " + five + ";general 0 u;", 5);
        refused("assume and " + five + " n;general 0 u;", 5);
        refused("assume and " + five + " or " + Bench.wide(4) + " p c;general 0 u;", 5);
        refused("assume and " + five.substring(0, 26) + "n " + Bench.wide(3) + ";general 0 u;general 1 u;", 5);
        pieces("assume " + five + ";orleft 0 " + five + ";", 13);
        pieces("assume " + five + ";deduce 0 n;", 8);
        pieces("assume " + five + ";both 0 0;", 13);
        pieces("assume " + five + ";special 0 u;", 5);
        pieces("assume " + five + ";special 0 u;general 1 u;", 6);
    }

    // 12 FORMULAS at most that a STEP assumes.

    private static final String[] ASSUMED = {"n", "p c", "q c c", "p g c", "q c u", "q u c", "q u u", "p u", "same c u", "same u c",
        "false"};

    /** 34 steps; step 33 is the formula, the last one of twelve that it assumes. */
    private static String twelve(String last) {
        StringBuilder text = new StringBuilder();
        for (String one : ASSUMED) {
            text.append("assume ").append(one).append(';');
        }
        text.append("assume ").append(last).append(';');
        int behind = 12;
        int all = 0;
        for (int i = 1; i < 12; i++) {
            text.append("both ").append(all).append(' ').append(i).append(";right ").append(behind).append(';');
            all = behind + 1;
            behind += 2;
        }
        return text.toString();
    }

    private static void assumes(String last, String steps, int count) {
        ProofBench x = bench.with(THEORY);
        String text = twelve(last) + steps;
        int due = text.split(";").length;
        if (count > 12) {
            bench.due("prove " + text, Bench.prove(x, text), due - 1);
            bench.due("refused of " + steps, Bench.refused(x), due - 1 + " for 5");
            return;
        }
        bench.due("prove " + text, Bench.prove(x, text), due);
        bench.due("assumes after " + steps, x.step(due - 1, 1), count);
        bench.due("the last after " + steps, x.assumed(due - 1, count - 1, 0) >= 0 ? 1 : 0, 1);
        bench.due("none behind after " + steps, x.assumed(due - 1, count, 0), -1);
    }

    private static void assumedByOneRule() {
        assumes("imp n p u", "", 12);
        assumes("and n p u", "left 33;", 12);
        assumes("and n p u", "right 33;", 12);
        assumes("imp n p u", "orleft 33 p c;", 12);
        assumes("imp n p u", "orright 33 p c;", 12);
        assumes("imp n p u", "deduce 33 n;", 11);
        assumes("imp n p u", "deduce 33 imp n n;", 12);
        assumes("imp n p u", "general 33 v;", 12);
        assumes("all x p x", "special 33 c;", 12);
        assumes("p g g c", "exist 33 c some x p g g x;", 12);
    }

    private static void assumedByTwoPremises() {
        assumes("imp n p u", "both 33 0;", 12);
        assumes("imp n p u", "assume not n;both 33 34;", 13);
        assumes("imp n p u", "assume not n;both 34 33;", 13);
        assumes("imp n p u", "apply 33 0;", 12);
        assumes("imp not n n", "assume not n;apply 33 34;", 13);
        assumes("some x p x", "open 33 0 v;", 12);
        assumes("some x p x", "assume not n;open 33 34 v;", 13);
        // The one that is left out does not count.
        assumes("some x p x", "assume p w;orleft 0 n;assume n;both 34 36;right 37;open 33 38 w;", 12);
        assumes("some x p x", "assume p w;assume not n;both 34 35;right 36;open 33 37 w;", 13);
        assumes("same g u c", "replace 33 7 p u;", 12);
        assumes("same g u c", "assume not n;replace 33 34 not n;", 13);
        assumes("same g u c", "deduce 33 n;assume not n;both 34 35;", 12);
    }

    private static void assumedByThreePremises() {
        assumes("or n p c", "case 33 0 0;", 12);
        assumes("or n p c", "assume p v;case 33 34 34;", 13);
        assumes("or p v p w", "assume p v;exist 34 v some x p x;assume p w;exist 36 w some x p x;case 33 35 37;", 12);
        assumes("or p v p w", "assume p v;exist 34 v some x p x;assume p w;exist 36 w some x p x;case 33 37 35;", 14);
        assumes("or p v p w", "assume p v;both 34 0;right 35;case 33 36 36;", 13);
        assumes("or p v p v", "assume p v;case 33 34 34;", 12);
    }

    /** The steps would assume 13, or have 41 pieces, or be too deep, but another cause is less. */
    private static void causesAheadOfTooMuch() {
        cause("imp n p u", "assume not n;both 34 99;", 1);
        cause("imp n p u", "assume not n;both 35 33;", 1);
        cause("imp n p u", "assume not n;apply 33 34;", 2);
        cause("or n p c", "assume p v;assume p w;case 33 34 35;", 2);
        cause("and n p c", "assume not n;open 33 34 v;", 2);
        cause("imp n p u", "assume not n;replace 33 34 not n;", 2);
        cause("some x p x", "assume p w;assume not n;both 34 35;open 33 36 w;", 3);
        cause("some x q x w", "assume not n;open 33 34 w;", 3);
        cause("same g u c", "assume not n;replace 33 34 n;", 4);
        cause("same g u c", "assume not n;replace 33 34 not n;", 5);
        String wide = "h " + flat(19) + " c";
        refused("assume n;special 0 " + wide + ";", 2);
        refused("assume some x q x x;special 0 " + wide + ";", 2);
        refused("assume all x q x x;special 1 " + wide + ";", 1);
        refused("assume all x q x x;special 0 " + wide + ";", 5);
        refused("assume q c c;exist 0 " + wide + " some x q x x;", 4);
        refused("assume q c c;exist 1 " + wide + " some x q x x;", 1);
        refused("assume and p u " + Bench.wide(19) + ";general 1 u;", 1);
        refused("assume and p u " + Bench.wide(19) + ";assume n;deduce 0 and p u " + Bench.wide(19) + ";", 5);
        refused("assume and p u " + Bench.wide(19) + ";general 0 u;", 3);
        refused("assume and p u " + Bench.wide(19) + ";general 0 v;", 5);
        refused("assume " + Bench.repeat("or n ", 12) + "n;both 0 1;", 1);
        refused("assume some a some b some d some e some f p u;general 0 u;", 3);
        refused("assume some a some b some d some e some f p u;general 0 v;", 5);
    }

    private static void cause(String last, String steps, int cause) {
        ProofBench x = bench.with(THEORY);
        String text = twelve(last) + steps;
        int due = text.split(";").length - 1;
        bench.due("prove " + text, Bench.prove(x, text), due);
        bench.due("refused of " + steps, Bench.refused(x), due + " for " + cause);
    }

    /** The last step leans on the last axiom and the last theorem, and assumes as many as can be. */
    private static void lastOfEachSort() {
        ProofBench x = bench.with(THEORY + "axiom b n;axiom d n;axiom e n;axiom f n;axiom k n;axiom l n;axiom h all x q x x;");
        Bench.prove(x, "assume n;deduce 0 n;");
        for (int i = 0; i < 12; i++) {
            bench.due("keep", x.keep(), i);
        }
        String text = twelve("imp n p u") + "axiom h;theorem 11;both 34 35;both 33 36;right 37;general 38 z;";
        bench.due("prove " + text, Bench.prove(x, text), 40);
        bench.due("pieces", x.step(39, 0), 9);
        bench.due("assumes", x.step(39, 1), 12);
        bench.due("axioms", x.step(39, 2), 1 << 7);
        bench.due("theorems", x.step(39, 3), 1 << 11);
        bench.due("line", Bench.line(x, 39), "4 1 4 12 40 40 3 10 10");
        for (int n = 0; n < 12; n++) {
            String row = Bench.line(x, n);
            bench.due("pieces of what it assumes", row.split(" ").length, x.step(n, 0));
            for (int i = 0; i < x.step(n, 0); i++) {
                bench.due("assumed(39, " + n + ", " + i + ")", x.assumed(39, n, i), x.line(n, i));
            }
            bench.due("assumed(39, " + n + ", ..) behind it", x.assumed(39, n, x.step(n, 0)), -1);
        }
        bench.due("needs", x.needs(39), (1L << 40) - 1);
        Bench.read(x, "all e and all e q e e imp n n");
        bench.due("alike the last step", x.alike(), 39);
        Bench.read(x, "imp n p d");
        bench.due("alike the last one of twelve", x.alike(), 11);
        bench.due("drop", x.drop(), 11);
        Bench.prove(x, "theorem 10;axiom h;both 0 1;");
        bench.due("keep", x.keep(), 11);
        bench.due("leans on axioms", x.leans(11, 0), 1 << 7);
        bench.due("leans on theorems", x.leans(11, 1), 1 << 10);
        bench.due("leans on axioms through all", x.leans(11, 2), 1 << 7);
    }

    /** 40 pieces, each of them gone past by itself. */
    private static void replacedInAFullRow() {
        String full = "all x " + Bench.wide(20);
        ProofBench x = bench.with(THEORY);
        String text = "assume same c g c;assume " + full + ";replace 0 1 " + full + ";";
        bench.due("replace in 40 pieces", Bench.prove(x, text), 3);
        bench.due("pieces", x.step(2, 0), 40);
        String place = "p h " + flat(19) + " c";
        String other = "p h " + flat(19) + " u";
        text = "assume same c u;assume " + place + ";replace 0 1 " + other + ";replace 0 1 " + place + ";";
        bench.due("replace of the last piece", Bench.prove(x, text), 4);
        bench.due("the last piece", x.line(2, 39) * 100 + x.line(3, 39), 6020);
        text = "assume same c u;assume " + place + ";replace 0 1 " + place.replace(" c", " u") + ";";
        bench.due("replace of all", Bench.prove(x, text), 3);
        bench.due("the last piece", x.line(2, 39), 60);
        text = "assume same u c;assume " + place + ";replace 0 1 " + other + ";";
        bench.due("replace the other way", Bench.prove(x, text), 2);
        bench.due("refused", Bench.refused(x), "2 for 4");
    }

    // SPENT: more than 4,096 MODELS.

    private static void modelsThatAreGoneThrough() {
        // 2^4 * 3^5 are 3,888; 3 * 2^10 are 3,072; 2 * 3^7 are 4,374.
        models("rel a 0;rel b 0;rel d 0;rel e 0;fun f 1;fun c 0;fun i 0;", 3888);
        models("rel a 0;fun f 1;fun g 1;fun c 0;", -2);
        models("fun f 1;fun g 1;fun c 0;", 2187);
        models("fun f 1;fun g 1;fun c 0;fun d 0;", -2);
        models("rel q 2;rel p 1;", 4096);
        models("rel q 2;rel p 1;fun c 0;", -2);
        models("rel a 0;rel b 0;rel d 0;rel p 1;rel r 1;rel s 1;", 4096);
        models("rel a 0;rel b 0;rel p 1;rel r 1;rel s 1;fun c 0;", -2);
        // Those of each number of things are told apart.
        ProofBench x = bench.with("rel a 0;rel b 0;rel d 0;rel e 0;rel h 0;rel p 1;axiom k or a all x p x;");
        bench.due("models(2)", x.models(2), 128);
        for (int turn = 0; turn < 2; turn++) {
            bench.due("hold(3)", x.hold(3), 128 + 16);
            bench.due("hold(2)", x.hold(2), 64 + 16);
            bench.due("hold(1)", x.hold(1), 32 + 16);
        }
        // And those of the theory that was.
        bench.due("theory", Bench.theory(x, "rel a 0;rel b 0;rel d 0;rel e 0;rel h 0;rel p 1;axiom k and a some x p x;"), 1);
        bench.due("hold(1)", x.hold(1), 16);
        bench.due("hold(2)", x.hold(2), 48);
        bench.due("hold(3)", x.hold(3), 112);
        // Terms and parts as deep as can be, on both sides.
        x = bench.with("rel q 2;fun f 1;");
        Bench.read(x, "same f x " + Bench.repeat("f ", 11) + "x");
        bench.due("holds for the identity", x.holds(2, 1), 1);
        bench.due("holds for the constant 0", x.holds(2, 0), 1);
        bench.due("holds for the swap", x.holds(2, 2), 1);
        Bench.read(x, "same x " + Bench.repeat("f ", 11) + "x");
        bench.due("holds for the identity", x.holds(2, 1), 1);
        bench.due("holds for the swap", x.holds(2, 2), 0);
        Bench.read(x, "q x " + Bench.repeat("f ", 11) + "x");
        // Digits of q, then of f: q is 0110, f swaps.
        bench.due("holds for the swap", x.holds(2, 0b011010), 1);
        bench.due("holds for the identity", x.holds(2, 0b011001), 0);
        bench.due("holds for the identity", x.holds(2, 0b100101), 1);
        Bench.read(x, "all u all v all w all y all z q z y");
        bench.due("holds for all", x.holds(2, 0b111100), 1);
        bench.due("holds for all but one", x.holds(2, 0b110100), 0);
    }

    // SPENT: more than 40 PIECES, or a row too deep on the way.

    private static void rewrittenRows() {
        String theory = "fun c 0;fun g 1;fun h 2;fun k 1;axiom a all x same k x g h x x;";
        ProofBench x = bench.with(theory);
        bench.due("rewrite to 40", Bench.rewrite(x, "k " + flat(10)), 1);
        bench.due("the last", x.normal(39), 20);
        bench.due("none behind", x.normal(40), -1);
        bench.due("rewrite to 42", Bench.rewrite(x, "k g " + flat(10)), -2);
        bench.due("normal", x.normal(0), -1);
        bench.due("rewrite to 41 by the g ahead", Bench.rewrite(x, "g k " + flat(10)), -2);
        bench.due("rewrite a full one", Bench.rewrite(x, "g h " + flat(19) + " c"), 0);
        bench.due("the last", x.normal(39), 20);
        bench.due("rewrite a full one to too many", Bench.rewrite(x, "h h " + flat(18) + " c k c"), -2);
        bench.due("its fault", Bench.fault(x), "0 at -1");
        theory = "fun c 0;fun g 1;fun h 2;fun k 1;axiom a all x same k x g h x c;axiom b all x same g h x c x;";
        x = bench.with(theory);
        bench.due("rewrite to 40 on the way", Bench.rewrite(x, "h " + flat(18) + " k c"), 2);
        bench.due("its pieces", Bench.normal(x).split(" ").length, 37);
        bench.due("rewrite to 41 on the way", Bench.rewrite(x, "h " + flat(18) + " g k c"), -2);
        x = bench.with("fun c 0;fun g 1;fun k 1;axiom a all x same k x g g x;axiom b same g c c;");
        bench.due("12 deep on the way", Bench.rewrite(x, Bench.repeat("g ", 10) + "k c"), 13);
        bench.due("normal", Bench.normal(x), "20");
        bench.due("13 deep on the way", Bench.rewrite(x, Bench.repeat("g ", 11) + "k c"), -2);
        bench.due("normal", Bench.normal(x), "");
        x = bench.with("fun c 0;fun g 1;fun k 1;axiom a all x same k x x;");
        bench.due("12 rewritings", Bench.rewrite(x, Bench.repeat("k ", 12) + "c"), 12);
    }

    private static void theory(String text, int axioms) {
        ProofBench x = new ProofBench();
        bench.due("theory " + text, Bench.theory(x, text), axioms);
        bench.due("fault of " + text, Bench.fault(x), "0 at -1");
    }

    private static void theoryFault(String text, int kind, int place) {
        ProofBench x = new ProofBench();
        bench.due("theory " + text, Bench.theory(x, text), -1);
        bench.due("fault of " + text, Bench.fault(x), kind + " at " + place);
        bench.due("what there is after " + text, x.about(0) + x.about(1) + x.about(2), 0);
    }

    private static void proofFault(String text, int kind, int place) {
        ProofBench x = bench.with(THEORY);
        bench.due("prove " + text, Bench.prove(x, text), -1);
        bench.due("fault of " + text, Bench.fault(x), kind + " at " + place);
    }

    private static void refused(String text, int cause) {
        ProofBench x = bench.with(THEORY);
        int steps = text.split(";").length;
        bench.due("prove " + text, Bench.prove(x, text), steps - 1);
        bench.due("refused of " + text, Bench.refused(x), steps - 1 + " for " + cause);
    }

    private static void comesTo(String text, String line) {
        ProofBench x = bench.with(THEORY);
        int steps = text.split(";").length;
        bench.due("prove " + text, Bench.prove(x, text), steps);
        bench.due("line of " + text, Bench.line(x, steps - 1), line);
    }

    private static void models(String theory, int models) {
        ProofBench x = bench.with(theory);
        bench.due("models of " + theory, x.models(3), models);
        bench.due("hold of " + theory, x.hold(3), models);
        Bench.read(x, "same u u");
        bench.due("counter of " + theory, x.counter(3), models == -2 ? -2 : -1);
        bench.due("holds of " + theory, x.holds(3, 0), models == -2 ? -2 : 1);
        if (models != -2) {
            bench.due("the last of " + theory, x.holds(3, models - 1), 1);
            bench.due("one more of " + theory, x.holds(3, models), -1);
            Bench.read(x, "false");
            bench.due("counter of false by " + theory, x.counter(3), 0);
        }
    }

    /** A formula without free ones: as an axiom, in a proof, and by itself. */
    private static void sound(String formula, int pieces) {
        ProofBench x = bench.with(THEORY);
        bench.due("read " + formula, Bench.read(x, formula), pieces);
        bench.due("prove by " + formula, Bench.prove(x, "assume n;assume " + formula + ";"), 2);
        bench.due("pieces of its step", x.step(1, 0), pieces);
        bench.due("theory with " + formula, Bench.theory(x, THEORY + "axiom k " + formula + ";"), 2);
        bench.due("prove by the axiom", Bench.prove(x, "axiom k;"), 1);
        bench.due("pieces of the axiom", x.step(0, 0), pieces);
    }

    private static void fault(String formula, int kind, int place) {
        ProofBench x = bench.with(THEORY);
        bench.due("read " + formula, Bench.read(x, formula), -1);
        bench.due("its fault", Bench.fault(x), kind + " at " + place);
        String step = "assume n;assume ";
        bench.due("prove by " + formula, Bench.prove(x, step + formula + ";"), -1);
        bench.due("its fault", Bench.fault(x), kind + " at " + (step.length() + place));
        String line = THEORY + "axiom k ";
        bench.due("theory with " + formula, Bench.theory(x, line + formula + ";"), -1);
        bench.due("its fault", Bench.fault(x), kind + " at " + (line.length() + place));
    }
}
