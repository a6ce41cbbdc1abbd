/** What README.md shows, call by call. */
public final class ReadmeTest {
    private static final Bench bench = new Bench();

    public static void main(String[] args) {
        ProofBench x = new ProofBench();
        bench.due("feed", x.feed(0x72656c20, 0x7020313b, 0x6178696f, 0x6d206120, 0x616c6c20), 20);
        bench.due("feed", x.feed(0x78207020, 0x783b2020, 0x20202020, 0x20202020, 0x20202020), 40);
        bench.due("theory", x.theory(), 1);
        bench.due("feed", x.feed(0x6178696f, 0x6d20613b, 0x73706563, 0x69616c20, 0x3020793b), 20);
        bench.due("prove", x.prove(), 2);
        bench.due("line(1, 0)", x.line(1, 0), 10);
        bench.due("line(1, 1)", x.line(1, 1), 60);
        bench.due("step(1, 2)", x.step(1, 2), 1);
        bench.due("keep", x.keep(), -1);
        bench.due("feed", x.feed(0x736f6d65, 0x20782070, 0x20782020, 0x20202020, 0x20202020), 20);
        bench.due("read", x.read(), 3);
        bench.due("counter(2)", x.counter(2), -1);
        bench.finish("ReadmeTest");
    }
}
