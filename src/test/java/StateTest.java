/**
 * What stays and what goes: at theory, prove, read, rewrite, keep, drop, image and back, at their faults, and at all
 * calls that answer NONE or -2.
 */
public final class StateTest {
    private static final Bench bench = new Bench();
    private static final String THEORY = "rel p 1;fun c 0;fun f 1;axiom a all x same f x x;axiom b p c;";
    private static final String PROOF = "assume p x;axiom b;both 0 1;left 1;";
    private static final int[] WILD = {Integer.MIN_VALUE, -2, -1, 7, 12, 13, 40, 41, 64, Integer.MAX_VALUE};

    private interface Act {
        long on(ProofBench x);
    }

    public static void main(String[] args) {
        newTheory();
        theoryWithFault();
        newProof();
        proofWithFault();
        newFormula();
        formulaWithFault();
        newTerm();
        termSpent();
        termWithFault();
        kept();
        dropped();
        imageTaken();
        backToImage();
        bytesComeAndGo();
        callsThatDoNothing();
        wildArguments();
        notKept();
        nothingToDrop();
        spentCallsDoNothing();
        questionsChangeNothing();
        noProofIsTold();
        lastOfAllCalls();
        bench.finish("StateTest");
    }

    /** Two theorems, the first of them in box 1; a proof that was refused, a formula, a term. */
    private static ProofBench full() {
        ProofBench x = bench.with(THEORY);
        Bench.prove(x, "axiom b;");
        x.keep();
        x.image(1);
        Bench.prove(x, "theorem 0;axiom a;both 0 1;");
        x.keep();
        Bench.prove(x, PROOF);
        Bench.read(x, "imp p x p c");
        Bench.rewrite(x, "f f c");
        return x;
    }

    private static String theoryPart(ProofBench x) {
        return "theory " + x.about(0) + " " + x.about(1) + " " + x.about(2) + " " + x.rules() + ", " + x.models(1) + " "
                + x.models(2) + " " + x.models(3) + ", " + x.hold(1) + " " + x.hold(2) + "; ";
    }

    private static String proofPart(ProofBench x) {
        StringBuilder part = new StringBuilder("proof " + x.about(3) + " " + Bench.refused(x));
        for (int i = 0; i < 4; i++) {
            part.append(", ").append(x.step(i, 0)).append(' ').append(x.step(i, 1)).append(' ').append(x.step(i, 2));
            part.append(' ').append(x.step(i, 3)).append(" (").append(Bench.line(x, i)).append(") (");
            part.append(Bench.assumed(x, i)).append(") ").append(x.needs(i));
        }
        return part.append("; ").toString();
    }

    private static String theoremPart(ProofBench x) {
        StringBuilder part = new StringBuilder("theorems " + x.about(4));
        for (int i = 0; i < 3; i++) {
            part.append(", (").append(Bench.theorem(x, i)).append(") ").append(x.leans(i, 0)).append(' ');
            part.append(x.leans(i, 1)).append(' ').append(x.leans(i, 2));
        }
        return part.append("; ").toString();
    }

    private static String formulaPart(ProofBench x) {
        return "formula " + x.about(6) + " (" + Bench.read(x) + ") " + x.letters() + " " + x.table() + " " + x.row() + " "
                + x.holds(2, 0) + " " + x.counter(1) + " " + x.counter(2) + "; ";
    }

    private static String alikePart(ProofBench x) {
        return "alike " + x.alike() + "; ";
    }

    private static String termPart(ProofBench x) {
        return "term (" + Bench.normal(x) + "); ";
    }

    private static String tapePart(ProofBench x) {
        return "tape " + x.about(5) + "; ";
    }

    private static String all(ProofBench x) {
        return theoryPart(x) + proofPart(x) + theoremPart(x) + formulaPart(x) + alikePart(x) + termPart(x) + tapePart(x)
                + "fault " + Bench.fault(x);
    }

    /** The object is as one that came there on another way. */
    private static void dueAs(String act, ProofBench x, ProofBench other) {
        bench.due("all after " + act, all(x), all(other));
    }

    private static void boxes(String act, ProofBench x, int first, int second, int third) {
        bench.due("back(0) after " + act, x.back(0), first);
        bench.due("back(1) after " + act, x.back(1), second);
        bench.due("back(2) after " + act, x.back(2), third);
    }

    private static void newTheory() {
        ProofBench x = full();
        bench.due("theory", Bench.theory(x, ""), 0);
        dueAs("an empty theory", x, new ProofBench());
        boxes("an empty theory", x, -1, -1, -1);
        x = full();
        bench.due("theory", Bench.theory(x, "rel q 2;axiom d all x q x x;"), 1);
        dueAs("another theory", x, bench.with("rel q 2;axiom d all x q x x;"));
        boxes("another theory", x, -1, -1, -1);
        x = full();
        bench.due("the same theory", Bench.theory(x, THEORY), 2);
        dueAs("the same theory", x, bench.with(THEORY));
        boxes("the same theory", x, -1, -1, -1);
        // Each of the boxes is empty then.
        x = full();
        for (int box = 0; box < 3; box++) {
            bench.due("image(" + box + ")", x.image(box), 2);
        }
        bench.due("theory with a fault", Bench.theory(x, "_"), -1);
        boxes("a theory with a fault", x, 2, 2, 2);
        bench.due("theory", Bench.theory(x, ""), 0);
        boxes("a theory", x, -1, -1, -1);
    }

    private static void theoryWithFault() {
        ProofBench x = full();
        String before = all(x);
        bench.due("theory", Bench.theory(x, "rel q 2;fun p 1;axiom d false;fun p 1;"), -1);
        bench.due("all after a theory with a fault", all(x), before.replace("0 at -1", "3 at 34"));
        boxes("a theory with a fault", x, -1, 1, -1);
    }

    private static void newProof() {
        ProofBench x = full();
        String theorems = theoremPart(x);
        String rest = theoryPart(x) + formulaPart(x) + termPart(x) + tapePart(x);
        bench.due("prove", Bench.prove(x, "axiom a;theorem 1;"), 2);
        bench.due("proof", proofPart(x), "proof 2 -1 for -1, 5 0 1 0 (4 6 21 40 40) () 1, 8 0 0 2 (1 10 20 4 6 21 40 40) () 2, "
                + "-1 -1 -1 -1 () () -1, -1 -1 -1 -1 () () -1; ");
        bench.due("theorems after a proof", theoremPart(x), theorems);
        bench.due("the rest after a proof", theoryPart(x) + formulaPart(x) + termPart(x) + tapePart(x), rest);
        bench.due("alike after a proof", alikePart(x), "alike -1; ");
        boxes("a proof", x, -1, 1, -1);
        x = full();
        bench.due("prove nothing", Bench.prove(x, ""), 0);
        bench.due("proof", proofPart(x), proofPart(new ProofBench()));
        bench.due("theorems after no proof", theoremPart(x), theorems);
        bench.due("the rest after no proof", theoryPart(x) + formulaPart(x) + termPart(x) + tapePart(x), rest);
        boxes("no proof", x, -1, 1, -1);
        x = full();
        bench.due("prove, the first step refused", Bench.prove(x, "left 0;"), 0);
        bench.due("proof", proofPart(x), proofPart(new ProofBench()).replace("-1 for -1", "0 for 1"));
        bench.due("theorems after a refused step", theoremPart(x), theorems);
    }

    private static void proofWithFault() {
        ProofBench x = full();
        String before = all(x);
        bench.due("prove", Bench.prove(x, "axiom a;theorem 1;axiom d;left 0;"), -1);
        bench.due("all after a proof with a fault", all(x), before.replace("0 at -1", "6 at 24"));
        boxes("a proof with a fault", x, -1, 1, -1);
    }

    private static void newFormula() {
        ProofBench x = full();
        String rest = theoryPart(x) + proofPart(x) + theoremPart(x) + termPart(x) + tapePart(x);
        bench.due("read", Bench.read(x, "p c"), 2);
        bench.due("formula", formulaPart(x), "formula 2 (10 20) 1 1 0 0 -1 -1; ");
        bench.due("alike", alikePart(x), "alike 1; ");
        bench.due("the rest after a formula", theoryPart(x) + proofPart(x) + theoremPart(x) + termPart(x) + tapePart(x), rest);
        boxes("a formula", x, -1, 1, -1);
    }

    private static void formulaWithFault() {
        ProofBench x = full();
        String rest = theoryPart(x) + proofPart(x) + theoremPart(x) + termPart(x) + tapePart(x);
        bench.due("read", Bench.read(x, "p c c"), -1);
        bench.due("formula", formulaPart(x), "formula 0 () -1 -1 -1 -1 -1 -1; ");
        bench.due("alike", alikePart(x), "alike -1; ");
        bench.due("fault", Bench.fault(x), "2 at 4");
        bench.due("the rest", theoryPart(x) + proofPart(x) + theoremPart(x) + termPart(x) + tapePart(x), rest);
        boxes("a formula with a fault", x, -1, 1, -1);
    }

    private static void newTerm() {
        ProofBench x = full();
        String before = all(x);
        bench.due("rewrite", Bench.rewrite(x, "f f f y"), 3);
        bench.due("all after a term", all(x), before.replace(termPart(full()), "term (60); "));
        boxes("a term", x, -1, 1, -1);
    }

    private static void termSpent() {
        ProofBench x = bench.with("fun f 1;axiom a all x same f x f x;");
        Bench.prove(x, "axiom a;");
        x.keep();
        Bench.read(x, "same y f y");
        Bench.rewrite(x, "y");
        bench.due("term", termPart(x), "term (60); ");
        String before = all(x);
        bench.due("rewrite", Bench.rewrite(x, "f y"), -2);
        bench.due("all after a term that is spent", all(x), before.replace("term (60)", "term ()"));
    }

    private static void termWithFault() {
        ProofBench x = full();
        String before = all(x);
        bench.due("rewrite", Bench.rewrite(x, "f p"), -1);
        bench.due("all after a term with a fault", all(x),
                before.replace(termPart(full()), "term (); ").replace("0 at -1", "2 at 2"));
        bench.due("term", termPart(x), "term (); ");
        boxes("a term with a fault", x, -1, 1, -1);
    }

    private static void kept() {
        ProofBench x = full();
        Bench.prove(x, "theorem 1;left 0;");
        String before = all(x);
        String theorems = theoremPart(x);
        bench.due("keep", x.keep(), 2);
        String now = theoremPart(x);
        bench.due("theorems", now, theorems.replace("theorems 2", "theorems 3").replace("() -1 -1 -1", "(10 20) 0 2 3"));
        bench.due("all after a theorem is kept", all(x), before.replace(theorems, now));
        boxes("a theorem is kept", x, -1, 1, -1);
    }

    private static void dropped() {
        ProofBench x = full();
        bench.due("drop", x.drop(), 1);
        ProofBench other = bench.with(THEORY);
        Bench.prove(other, "axiom b;");
        other.keep();
        Bench.prove(other, "");
        Bench.read(other, "imp p x p c");
        Bench.rewrite(other, "f f c");
        dueAs("a theorem is dropped", x, other);
        bench.due("keep without a proof", x.keep(), -1);
        boxes("a theorem is dropped", x, -1, 1, -1);
    }

    private static void imageTaken() {
        ProofBench x = full();
        String before = all(x);
        bench.due("image", x.image(2), 2);
        bench.due("all after an image", all(x), before);
        bench.due("image in a full box", x.image(1), 2);
        boxes("an image", x, -1, 2, 2);
    }

    private static void backToImage() {
        ProofBench x = full();
        bench.due("back", x.back(1), 1);
        ProofBench other = full();
        other.drop();
        dueAs("back", x, other);
        bench.due("keep without a proof", x.keep(), -1);
        boxes("back", x, -1, 1, -1);
        // Also if they are as they were: there is no proof then.
        x = full();
        x.image(0);
        bench.due("back at once", x.back(0), 2);
        bench.due("no proof after back", proofPart(x), proofPart(new ProofBench()));
    }

    private static void bytesComeAndGo() {
        ProofBench x = full();
        String before = all(x);
        bench.due("feed", x.feed(0x70202020, 0, 0, 0, 0), 20);
        bench.due("all after bytes came", all(x), before.replace("tape 0", "tape 20"));
        bench.due("end", x.end(1), 1);
        bench.due("all after an end", all(x), before.replace("tape 0", "tape 1"));
        boxes("an end", x, -1, 1, -1);
        bench.due("tape after back", x.about(5), 1);
        // A drop leaves it, too.
        bench.due("drop", x.drop(), 0);
        bench.due("tape after a drop", x.about(5), 1);
    }

    private static void doesNothing(String call, ProofBench x, long due, Act act) {
        String before = all(x);
        bench.due(call, act.on(x), due);
        bench.due("all after " + call, all(x), before);
    }

    private static void callsThatDoNothing() {
        ProofBench x = full();
        doesNothing("end(-1)", x, -1, o -> o.end(-1));
        doesNothing("end(1)", full(), -1, o -> o.end(1));
        doesNothing("keep after a refused step", full(), -1, o -> o.keep());
        doesNothing("back(0)", full(), -1, o -> o.back(0));
        doesNothing("back(3)", full(), -1, o -> o.back(3));
        doesNothing("back(-1)", full(), -1, o -> o.back(-1));
        doesNothing("image(3)", full(), -1, o -> o.image(3));
        doesNothing("image(-1)", full(), -1, o -> o.image(-1));
        x = full();
        for (int i = 0; i < 79; i++) {
            x.feed(0x61626364, 0, 0, 0, 0);
        }
        x.feed(0, 0, 0, 0, 0);
        doesNothing("feed of a full tape", x, -1, o -> o.feed(0, 0, 0, 0, 0));
        x = full();
        for (int i = 0; i < 80; i++) {
            x.feed(0x70206320, 0x20202020, 0x20202020, 0x20202020, 0x20202020);
        }
        x.end(1581);
        doesNothing("feed of one byte too many", x, -1, o -> o.feed(0, 0, 0, 0, 0));
        x.end(20);
        bench.due("the bytes are those that were", x.read(), 2);
    }

    /** Numbers beyond the last and below 0: NONE, and nothing else changes. */
    private static void wildArguments() {
        ProofBench x = full();
        String before = all(x);
        for (int i : WILD) {
            bench.due("fault(" + i + ")", x.fault(i), -1);
            bench.due("refused(" + i + ")", x.refused(i), -1);
            bench.due("about(" + i + ")", x.about(i), -1);
            bench.due("piece(" + i + ")", x.piece(i), -1);
            bench.due("normal(" + i + ")", x.normal(i), -1);
            bench.due("line(" + i + ", 0)", x.line(i, 0), -1);
            bench.due("line(2, " + i + ")", x.line(2, i), -1);
            bench.due("step(" + i + ", 0)", x.step(i, 0), -1);
            bench.due("step(2, " + i + ")", x.step(2, i), -1);
            bench.due("assumed(" + i + ", 0, 0)", x.assumed(i, 0, 0), -1);
            bench.due("assumed(2, " + i + ", 0)", x.assumed(2, i, 0), -1);
            bench.due("assumed(2, 0, " + i + ")", x.assumed(2, 0, i), -1);
            bench.due("needs(" + i + ")", x.needs(i), -1);
            bench.due("theorem(" + i + ", 0)", x.theorem(i, 0), -1);
            bench.due("theorem(0, " + i + ")", x.theorem(0, i), -1);
            bench.due("leans(" + i + ", 0)", x.leans(i, 0), -1);
            bench.due("leans(0, " + i + ")", x.leans(0, i), -1);
        }
        bench.due("all after wild questions", all(x), before);
        x = full();
        before = all(x);
        for (int i : WILD) {
            bench.due("end(" + i + ")", x.end(i), -1);
            bench.due("image(" + i + ")", x.image(i), -1);
            bench.due("back(" + i + ")", x.back(i), -1);
            bench.due("models(" + i + ")", x.models(i), -1);
            bench.due("hold(" + i + ")", x.hold(i), -1);
            bench.due("holds(" + i + ", 0)", x.holds(i, 0), -1);
            bench.due("holds(1, " + i + ")", x.holds(1, i), -1);
            bench.due("counter(" + i + ")", x.counter(i), -1);
        }
        bench.due("all after other wild calls", all(x), before);
        boxes("wild calls", x, -1, 1, -1);
    }

    private static void notKept() {
        String[] proofs = {"", "left 0;", "axiom b;left 0;", "assume p c;", "axiom b;assume p c;both 0 1;", "same x;",
            "axiom a;special 0 x;"};
        for (String proof : proofs) {
            ProofBench x = full();
            Bench.prove(x, proof);
            doesNothing("keep after " + proof, x, -1, o -> o.keep());
        }
        ProofBench x = full();
        Bench.prove(x, "axiom b;");
        for (int i = 2; i < 12; i++) {
            bench.due("keep", x.keep(), i);
        }
        doesNothing("keep of a 13th", x, -1, o -> o.keep());
        bench.due("theorem 12", x.theorem(12, 0), -1);
        bench.due("theorem 11", Bench.theorem(x, 11), "10 20");
        bench.due("image of twelve", x.image(0), 12);
        bench.due("drop", x.drop(), 11);
        bench.due("back to twelve", x.back(0), 12);
        bench.due("theorem 11", Bench.theorem(x, 11), "10 20");
    }

    private static void nothingToDrop() {
        ProofBench x = bench.with(THEORY);
        Bench.prove(x, PROOF);
        Bench.read(x, "imp p x p c");
        Bench.rewrite(x, "f f c");
        doesNothing("drop of none", x, -1, o -> o.drop());
        Bench.prove(x, "axiom b;");
        bench.due("keep", x.keep(), 0);
        bench.due("drop", x.drop(), 0);
        Bench.prove(x, PROOF);
        doesNothing("drop of none", x, -1, o -> o.drop());
    }

    /** The formula has 13 letters and eight free ones; there are too many models of two things. */
    private static ProofBench spent() {
        ProofBench x = bench.with("rel a 0;rel b 0;rel d 0;rel e 0;rel h 0;rel p 1;fun c 0;fun g 2;fun i 2;axiom k p c;");
        Bench.prove(x, "axiom k;");
        x.keep();
        Bench.prove(x, "axiom k;left 0;");
        Bench.read(x, "or not p s or or or or a b or d e or h p c or or or p x p y or p u p v or p w or p z p s");
        return x;
    }

    private static void spentCallsDoNothing() {
        bench.due("letters", spent().letters(), 13);
        doesNothing("table", spent(), -2, o -> o.table());
        doesNothing("row", spent(), -2, o -> o.row());
        doesNothing("models(2)", spent(), -2, o -> o.models(2));
        doesNothing("hold(2)", spent(), -2, o -> o.hold(2));
        doesNothing("holds(2, 0)", spent(), -2, o -> o.holds(2, 0));
        doesNothing("holds(1, 0)", spent(), -2, o -> o.holds(1, 0));
        doesNothing("counter(2)", spent(), -2, o -> o.counter(2));
        doesNothing("counter(1)", spent(), -2, o -> o.counter(1));
    }

    private static void questionsChangeNothing() {
        ProofBench x = full();
        bench.due("asked again", all(x), all(x));
        boxes("questions", x, -1, 1, -1);
    }

    /** Nothing of the steps that were is told any more: at drop, back, theory. */
    private static void noProofIsTold() {
        String steps = "assume p x;assume p c;both 0 1;";
        String none = proofPart(new ProofBench());
        ProofBench x = full();
        Bench.prove(x, steps);
        bench.due("assumed", Bench.assumed(x, 2), "10 60, 10 20");
        x.drop();
        bench.due("no proof after drop", proofPart(x), none);
        Bench.read(x, "p c");
        bench.due("alike after drop", x.alike(), -1);
        x = full();
        Bench.prove(x, steps);
        x.back(1);
        bench.due("no proof after back", proofPart(x), none);
        Bench.read(x, "p c");
        bench.due("alike after back", x.alike(), -1);
        x = full();
        Bench.prove(x, steps);
        Bench.theory(x, THEORY);
        bench.due("no proof after theory", proofPart(x), none);
        Bench.read(x, "p c");
        bench.due("alike after theory", x.alike(), -1);
        // Nor of the steps of longer proofs, of refused ones, of those behind them.
        x = full();
        Bench.prove(x, steps);
        Bench.prove(x, steps);
        bench.due("prove", Bench.prove(x, "left 0;" + steps), 0);
        bench.due("no step", proofPart(x), none.replace("-1 for -1", "0 for 1"));
        bench.due("prove", Bench.prove(x, "axiom b;"), 1);
        bench.due("one step", proofPart(x), "proof 1 -1 for -1, 2 0 2 0 (10 20) () 1"
                + Bench.repeat(", -1 -1 -1 -1 () () -1", 3) + "; ");
    }

    /** An object is used for 512 calls: the last of them answer as the first. */
    private static void lastOfAllCalls() {
        ProofBench x = new ProofBench();
        // "rel p 0;axiom b p;" and two blanks.
        x.feed(0x72656c20, 0x7020303b, 0x6178696f, 0x6d206220, 0x703b2020);
        bench.due("theory", x.theory(), 1);
        for (int calls = 2; calls < 502; calls += 10) {
            // "axiom b;" and blanks.
            bench.due("feed", x.feed(0x6178696f, 0x6d20623b, 0x20202020, 0x20202020, 0x20202020), 20);
            bench.due("prove", x.prove(), 1);
            bench.due("keep", x.keep(), 0);
            bench.due("image", x.image(2), 1);
            bench.due("drop", x.drop(), 0);
            bench.due("back", x.back(2), 1);
            bench.due("drop", x.drop(), 0);
            bench.due("feed", x.feed(0x70202020, 0x20202020, 0x20202020, 0x20202020, 0x20202020), 20);
            bench.due("read", x.read(), 1);
            bench.due("counter", x.counter(3), -1);
        }
        for (int calls = 502; calls < 511; calls++) {
            bench.due("piece", x.piece(0), 10);
        }
        bench.due("the 512th call", x.hold(3), 1);
    }
}
