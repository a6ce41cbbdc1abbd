/** Promises 1, 2, 3 and 31. */
public final class TapeTest {
    private static final Bench bench = new Bench();

    public static void main(String[] args) {
        newObject();
        bytesAreFed();
        tapeIsEnded();
        answersAbout();
        bench.finish("TapeTest");
    }

    private static void newObject() {
        ProofBench x = new ProofBench();
        bench.due("NONE", ProofBench.NONE, -1);
        for (int what = 0; what <= 6; what++) {
            bench.due("about(" + what + ") of a new one", x.about(what), 0);
        }
        bench.due("models(3) of a new one", x.models(3), 1);
        bench.due("hold(3) of a new one", x.hold(3), 1);
        bench.due("rules of a new one", x.rules(), 0);
        bench.due("fault(0) of a new one", x.fault(0), 0);
        bench.due("fault(1) of a new one", x.fault(1), -1);
        bench.due("prove of nothing", x.prove(), 0);
        bench.due("read of nothing", x.read(), -1);
        bench.due("its fault", Bench.fault(x), "2 at 0");
        bench.due("theory of nothing", x.theory(), 0);
        bench.due("read of same a b", Bench.read(x, "same a b"), 3);
        bench.due("its pieces", Bench.read(x), "6 60 61");
    }

    private static void bytesAreFed() {
        ProofBench x = new ProofBench();
        // "rel abc 2; fun de 1;": a word for each four bytes, the highest byte first.
        bench.due("feed", x.feed(0x72656c20, 0x61626320, 0x323b2066, 0x756e2064, 0x6520313b), 20);
        bench.due("theory", x.theory(), 0);
        bench.due("rels", x.about(0), 1);
        bench.due("funs", x.about(1), 1);
        bench.due("read", Bench.read(x, "abc de x x"), 4);
        for (int i = 1; i <= 80; i++) {
            bench.due("feed " + i, x.feed(0, 0, 0, 0, 0), 20 * i);
        }
        bench.due("feed of a full tape", x.feed(1, 2, 3, 4, 5), -1);
        bench.due("bytes of a full tape", x.about(5), 1600);
        bench.due("end", x.end(1581), 1581);
        bench.due("feed of one byte too many", x.feed(1, 2, 3, 4, 5), -1);
        bench.due("nothing came", x.about(5), 1581);
        bench.due("end", x.end(1580), 1580);
        bench.due("feed of just so many", x.feed(-1, -2, -3, -4, -5), 1600);
        bench.due("read", x.read(), -1);
        bench.due("bytes below 0 are no tokens", Bench.fault(x), "1 at 0");
        x.feed(0x66616c73, 0x65202020, 0x20202020, 0x20202020, 0xff202020);
        bench.due("read with the byte 255", x.read(), -1);
        bench.due("its place", Bench.fault(x), "1 at 16");
        x.feed(0x66616c73, 0x65202020, 0x20202020, 0x0a202020, 0x20202020);
        bench.due("read with blanks behind", x.read(), 1);
    }

    private static void tapeIsEnded() {
        ProofBench x = new ProofBench();
        bench.due("end(0) of nothing", x.end(0), 0);
        bench.due("end(1) of nothing", x.end(1), -1);
        Bench.put(x, "false");
        bench.due("bytes", x.about(5), 5);
        bench.due("end(6)", x.end(6), -1);
        bench.due("end(-1)", x.end(-1), -1);
        bench.due("end(MIN)", x.end(Integer.MIN_VALUE), -1);
        bench.due("end(MAX)", x.end(Integer.MAX_VALUE), -1);
        bench.due("bytes still", x.about(5), 5);
        bench.due("end(5)", x.end(5), 5);
        bench.due("end(4)", x.end(4), 4);
        Bench.put(x, "e");
        bench.due("first bytes stay", x.read(), 1);
        bench.due("tape is empty then", x.about(5), 0);
    }

    private static void answersAbout() {
        ProofBench x = bench.with("rel p 1; rel q 2; rel r 0; fun f 1; fun c 0; axiom a r; axiom b not r;");
        bench.due("about rels", x.about(0), 3);
        bench.due("about funs", x.about(1), 2);
        bench.due("about axioms", x.about(2), 2);
        Bench.prove(x, "axiom a; axiom b; apply 1 0; absurd 2 p c; apply 0 0;");
        bench.due("about steps taken", x.about(3), 4);
        Bench.prove(x, "axiom a;");
        bench.due("about steps", x.about(3), 1);
        x.keep();
        x.keep();
        bench.due("about theorems", x.about(4), 2);
        Bench.put(x, "abc");
        bench.due("about bytes", x.about(5), 3);
        x.end(0);
        Bench.read(x, "q f c u");
        bench.due("about pieces", x.about(6), 4);
        Bench.read(x, "q f c");
        bench.due("about pieces after a fault", x.about(6), 0);
        bench.due("about(7)", x.about(7), -1);
        bench.due("about(-1)", x.about(-1), -1);
        bench.due("about(MIN)", x.about(Integer.MIN_VALUE), -1);
        bench.due("about(MAX)", x.about(Integer.MAX_VALUE), -1);
    }
}
