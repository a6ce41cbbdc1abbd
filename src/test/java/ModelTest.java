/** Promises 25 to 28: small models by number, those in which axioms and formulas hold. */
public final class ModelTest {
    private static final Bench bench = new Bench();

    public static void main(String[] args) {
        howMany();
        inWhichAxiomsHold();
        digits();
        digitsOfFunctions();
        formulas();
        freeOnes();
        counters();
        spent();
        wildArguments();
        thingsByTurns();
        theoriesComeAndGo();
        bench.finish("ModelTest");
    }

    private static void models(String theory, int one, int two, int three) {
        ProofBench x = bench.with(theory);
        bench.due("models(1) of " + theory, x.models(1), one);
        bench.due("models(2) of " + theory, x.models(2), two);
        bench.due("models(3) of " + theory, x.models(3), three);
    }

    private static void howMany() {
        models("", 1, 1, 1);
        models("rel a 0;", 2, 2, 2);
        models("rel p 1;", 2, 4, 8);
        models("rel q 2;", 2, 16, 512);
        models("fun c 0;", 1, 2, 3);
        models("fun f 1;", 1, 4, 27);
        models("fun g 2;", 1, 16, -2);
        models("rel q 2;rel p 1;", 4, 64, 4096);
        models("rel q 2;rel p 1;rel a 0;", 8, 128, -2);
        models("rel q 2;rel r 2;rel p 1;rel n 1;", 16, 4096, -2);
        models("rel q 2;rel r 2;rel s 2;", 8, 4096, -2);
        models("rel q 2;rel r 2;rel s 2;fun c 0;", 8, -2, -2);
        models("fun a 0;fun b 0;fun c 0;fun d 0;rel p 1;", 2, 64, 648);
        models("rel a 2;rel b 2;rel c 2;rel d 2;rel e 2;rel f 2;fun g 2;fun h 2;fun i 2;fun j 2;", 64, -2, -2);
        models("rel a 0;rel b 0;rel c 0;rel d 0;rel e 0;rel f 0;fun g 0;fun h 0;fun i 0;fun j 0;", 64, 1024, -2);
    }

    private static void hold(String theory, int one, int two, int three) {
        ProofBench x = bench.with(theory);
        for (int turn = 0; turn < 2; turn++) {
            bench.due("hold(1) of " + theory, x.hold(1), one);
            bench.due("hold(2) of " + theory, x.hold(2), two);
            bench.due("hold(3) of " + theory, x.hold(3), three);
        }
    }

    private static void inWhichAxiomsHold() {
        hold("", 1, 1, 1);
        hold("axiom a false;", 0, 0, 0);
        hold("axiom a not false;", 1, 1, 1);
        hold("axiom a all x all y same x y;", 1, 0, 0);
        hold("axiom a some x some y not same x y;", 0, 1, 1);
        hold("axiom a some x some y some z and not same x y and not same x z not same y z;", 0, 0, 1);
        hold("rel q 2;", 2, 16, 512);
        hold("rel q 2;axiom r all x q x x;", 1, 4, 64);
        hold("rel q 2;axiom s all x all y imp q x y q y x;", 2, 8, 64);
        hold("rel q 2;axiom t all x all y all z imp q x y imp q y z q x z;", 2, 13, 171);
        hold("rel q 2;axiom r all x q x x;axiom t all x all y all z imp q x y imp q y z q x z;", 1, 4, 29);
        hold("rel q 2;axiom r all x q x x;axiom s all x all y imp q x y q y x;"
                + "axiom t all x all y all z imp q x y imp q y z q x z;", 1, 2, 5);
        hold("rel q 2;axiom r all x q x x;axiom s all x all y imp and q x y q y x same x y;"
                + "axiom t all x all y all z imp q x y imp q y z q x z;", 1, 3, 19);
        hold("fun f 1;axiom i all x all y imp same f x f y same x y;", 1, 2, 6);
        hold("fun f 1;axiom i all x same f f x f x;", 1, 3, 10);
        hold("fun f 1;axiom i all x not same f x x;", 0, 1, 8);
        hold("fun f 1;fun c 0;axiom i same f c c;", 1, 4, 27);
        hold("rel q 2;axiom s all a all b all d all e some h and q a h imp q h b imp q d e q h h;", 1, 8, 256);
        hold("rel q 2;axiom s some a some b all d some e all h and q a h q h b;", 1, 5, 91);
        hold("rel p 1;axiom s " + Bench.repeat("or false ", 10) + "all x p x;", 1, 1, 1);
        hold("fun f 1;rel a 0;axiom s all x same " + Bench.repeat("f ", 10) + "x x;", 2, 4, 8);
        hold("rel p 1;rel a 0;axiom i imp a all x p x;", 3, 5, 9);
        hold("rel p 1;rel a 0;axiom i or a some x p x;", 3, 7, 15);
    }

    /** The numbers of the models in which a formula holds, as bits; 64 models at most. */
    private static void holds(String theory, String formula, int n, long bits) {
        ProofBench x = bench.with(theory);
        Bench.read(x, formula);
        long got = 0;
        for (int i = 0; i < x.models(n); i++) {
            got |= (long) x.holds(n, i) << i;
        }
        bench.due("holds(" + n + ", ..) of " + formula + " by " + theory, got, bits);
        bench.due("holds behind them", x.holds(n, x.models(n)), -1);
    }

    private static void digits() {
        holds("rel a 0;", "a", 1, 0b10);
        holds("rel a 0;rel b 0;", "a", 1, 0b1100);
        holds("rel a 0;rel b 0;", "b", 1, 0b1010);
        holds("rel b 0;rel a 0;", "a", 1, 0b1010);
        holds("fun f 1;rel a 0;", "a", 2, 0b11110000);
        holds("fun c 0;rel a 0;", "a", 3, 0b111000);
        // Digits p(0), p(1), c, d; the axiom does not count.
        holds("rel p 1;fun c 0;fun d 0;axiom a not same c d;", "p c", 2, 0b11110011_11000000);
        holds("rel p 1;", "all x p x", 2, 0b1000);
        holds("rel p 1;", "some x p x", 2, 0b1110);
        holds("rel p 1;", "all x p x", 3, 0b10000000);
        holds("rel q 2;", "all x q x x", 1, 0b10);
        holds("rel q 2;", "all x all y q x y", 2, 1L << 15);
        // Digits of q: 00, 01, 10, 11; the first counts 8, the last 1.
        holds("rel q 2;", "all x q x x", 2, 1L << 9 | 1L << 11 | 1L << 13 | 1L << 15);
        holds("rel q 2;", "some x all y q x y", 2, 1L << 3 | 1L << 7 | 1L << 11 | 1L << 12 | 1L << 13 | 1L << 14 | 1L << 15);
        holds("rel q 2;", "some x all y q y x", 2, 1L << 5 | 1L << 7 | 1L << 10 | 1L << 11 | 1L << 13 | 1L << 14 | 1L << 15);
    }

    private static void digitsOfFunctions() {
        holds("fun c 0;fun d 0;", "same c d", 3, 1 | 1 << 4 | 1 << 8);
        // Digits of f: f(0), f(1); the first counts most.
        holds("fun f 1;", "all x same f x x", 2, 0b10);
        holds("fun f 1;", "all x not same f x x", 2, 0b100);
        holds("fun f 1;", "some x all y same f y x", 2, 0b1001);
        holds("fun f 1;", "all x same f x x", 3, 1L << 0 * 9 + 1 * 3 + 2);
        holds("fun f 1;", "and some x not same f x x all x same f f f x x", 3, 1L << 9 + 6 | 1L << 18 + 1);
        // f and c: f(0), f(1), c.
        holds("fun f 1;fun c 0;", "same f c c", 2, 1 << 0 | 1 << 2 | 1 << 3 | 1 << 7);
        holds("fun c 0;fun f 1;", "same f c c", 2, 1 << 0 | 1 << 1 | 1 << 5 | 1 << 7);
        // Digits of g: g(0, 0), g(0, 1), g(1, 0), g(1, 1).
        holds("fun g 2;", "all x all y same g x y x", 2, 1 << 3);
        holds("fun g 2;", "all x all y same g x y y", 2, 1 << 5);
        holds("fun g 2;", "all x same g x x x", 2, 1 << 1 | 1 << 3 | 1 << 5 | 1 << 7);
    }

    private static void formulas() {
        holds("rel a 0;rel b 0;", "and a b", 1, 0b1000);
        holds("rel a 0;rel b 0;", "or a b", 1, 0b1110);
        holds("rel a 0;rel b 0;", "imp a b", 1, 0b1011);
        holds("rel a 0;rel b 0;", "not a", 1, 0b0011);
        holds("rel a 0;rel b 0;", "false", 1, 0);
        holds("rel p 1;", "all x imp p x all x p x", 2, 0b1001);
        holds("rel p 1;", "some x imp p x all x p x", 3, 0xff);
        holds("rel p 1;", "all x some y and imp p x p y not same x y", 2, 0b1001);
        holds("rel p 1;", "some a some b some d and p a and p b and p d and not same a b and not same a d not same b d", 3, 0x80);
        holds("rel a 0;", Bench.repeat("or false ", 12) + "a", 1, 0b10);
        holds("rel a 0;", Bench.repeat("or false ", 11) + "not a", 1, 0b01);
        holds("fun f 1;", "same " + Bench.repeat("f ", 11) + "x f x", 2, 0b1111);
        // Digits p(0), p(1), f(0), f(1).
        holds("fun f 1;rel p 1;", "imp p x p " + Bench.repeat("f ", 10) + "x", 2, 0b11110111_11101111);
        holds("rel p 1;", "all a all b all d all e all h imp p a imp p b imp p d imp p e p h", 2, 0b1001);
    }

    private static void freeOnes() {
        holds("rel p 1;", "p x", 2, 0b1000);
        holds("rel p 1;", "imp p x p y", 2, 0b1001);
        holds("rel p 1;", "or p x not p x", 2, 0b1111);
        holds("rel p 1;", "not p x", 2, 0b0001);
        holds("", "same x y", 1, 0b1);
        holds("", "same x y", 2, 0);
        holds("", "or same x y or same x z same y z", 2, 1);
        holds("", "or same x y or same x z same y z", 3, 0);
        holds("rel q 2;", "imp q x y q y x", 2, 1 | 1 << 1 | 1 << 6 | 1 << 7 | 1 << 8 | 1 << 9 | 1 << 14 | 1 << 15);
        holds("rel p 1;", "imp and p a and p b p d p e", 2, 0b1001);
        ProofBench x = bench.with("rel p 1;");
        Bench.read(x, "imp and p a and p b and p d p e p a");
        bench.due("four free ones", x.holds(2, 1), 1);
        bench.due("four free ones", x.counter(2), -1);
        Bench.read(x, "imp and p a and p b and p d p e p h");
        bench.due("five free ones", x.holds(2, 1), -2);
        bench.due("five free ones", x.counter(2), -2);
        bench.due("five free ones", x.holds(1, 0), -2);
        bench.due("five free ones, a model that can't be", x.holds(2, 4), -1);
        bench.due("five free ones, four things", x.counter(4), -1);
        Bench.read(x, "all h imp and p a and p b and p d p e p h");
        bench.due("four free ones, a bound one", x.holds(2, 1), 0);
        // Which are free may be others than the first four numbers.
        Bench.read(x, "all a all b p a");
        bench.due("none free", x.holds(2, 3), 1);
        // As many as the formula has, whatever the one before it had.
        String[] formulas = {"p a", "imp p a p b", "imp and p a p b p d", "imp and p a and p b p d p e"};
        for (int turn = 0; turn < 16; turn++) {
            int free = turn % 4 == 0 ? 4 : turn % 2 == 0 ? 3 : 1 + turn / 2 % 2;
            Bench.read(x, formulas[free - 1]);
            for (int model = 0; model < 4; model++) {
                boolean so = model == 3 || model == 0 && free > 1;
                bench.due("holds(2, " + model + ") of " + free + " free ones", x.holds(2, model), so ? 1 : 0);
            }
            bench.due("counter(2) of " + free + " free ones", x.counter(2), free > 1 ? 1 : 0);
        }
    }

    private static void counters() {
        String order = "rel q 2;axiom r all x q x x;axiom t all x all y all z imp q x y imp q y z q x z;";
        ProofBench x = bench.with(order);
        bench.due("counter, none read", x.counter(2), -1);
        bench.due("holds, none read", x.holds(2, 0), -1);
        Bench.read(x, "q u u");
        bench.due("counter(1)", x.counter(1), -1);
        bench.due("counter(2)", x.counter(2), -1);
        bench.due("counter(3)", x.counter(3), -1);
        Bench.read(x, "imp q u v q v u");
        bench.due("counter(1)", x.counter(1), -1);
        // Digits 1011 and 1101 are orders that are not alike both ways; the first is 11.
        bench.due("counter(2)", x.counter(2), 11);
        bench.due("holds there", x.holds(2, 11), 0);
        // Of three things each as itself alone, and the last as the one ahead of it, too.
        bench.due("counter(3)", x.counter(3), 0b100010011);
        Bench.read(x, "some x all y q x y");
        bench.due("counter(2)", x.counter(2), 9);
        Bench.read(x, "all x all y q x y");
        bench.due("counter(2)", x.counter(2), 9);
        Bench.read(x, "false");
        bench.due("counter(1)", x.counter(1), 1);
        bench.due("counter(2)", x.counter(2), 9);
        x = bench.with("rel p 1;axiom a false;");
        Bench.read(x, "false");
        bench.due("no model of the axioms", x.counter(2), -1);
        bench.due("holds needs no axiom", x.holds(2, 0), 0);
        Bench.read(x, "p");
        bench.due("counter after a fault", x.counter(2), -1);
        bench.due("holds after a fault", x.holds(2, 0), -1);
        x = bench.with("rel p 1;");
        Bench.read(x, "some x p x");
        bench.due("the first model of all", x.counter(3), 0);
        Bench.read(x, "or p x not p y");
        bench.due("the first that is mixed", x.counter(3), 1);
    }

    private static void spent() {
        ProofBench x = bench.with("rel q 2;rel p 1;rel a 0;axiom b not a;");
        bench.due("models", x.models(3), -2);
        bench.due("hold", x.hold(3), -2);
        bench.due("counter, none read", x.counter(3), -1);
        Bench.read(x, "a");
        bench.due("counter", x.counter(3), -2);
        bench.due("holds", x.holds(3, 0), -2);
        bench.due("holds of a high one", x.holds(3, 8191), -2);
        bench.due("holds of one that can't be", x.holds(3, 8192), -1);
        bench.due("holds(3, -1)", x.holds(3, -1), -1);
        bench.due("hold(2)", x.hold(2), 64);
        bench.due("counter(2)", x.counter(2), 0);
        // As many as there may be.
        x = bench.with("rel q 2;rel p 1;axiom b all x all y all z imp p x q y z;");
        bench.due("models", x.models(3), 4096);
        bench.due("hold", x.hold(3), 512 + 7);
        Bench.read(x, "imp p x q x x");
        bench.due("counter", x.counter(3), -1);
        Bench.read(x, "imp p x p y");
        bench.due("counter", x.counter(3), 4089);
        bench.due("holds", x.holds(3, 4095), 1);
        bench.due("holds", x.holds(3, 4096), -1);
        x = bench.with("rel a 2;rel b 2;rel c 2;rel d 2;rel e 2;rel f 2;fun g 2;fun h 2;fun i 2;fun j 2;");
        Bench.read(x, "a u u");
        bench.due("more than any int", x.holds(3, Integer.MAX_VALUE), -2);
        bench.due("64 of one thing", x.hold(1), 64);
        bench.due("holds", x.holds(1, 32), 1);
        bench.due("holds", x.holds(1, 31), 0);
    }

    private static void wildArguments() {
        ProofBench x = bench.with("rel p 1;");
        Bench.read(x, "p u");
        int[] wild = {0, 4, -1, Integer.MIN_VALUE, Integer.MAX_VALUE};
        for (int n : wild) {
            bench.due("models(" + n + ")", x.models(n), -1);
            bench.due("hold(" + n + ")", x.hold(n), -1);
            bench.due("counter(" + n + ")", x.counter(n), -1);
            bench.due("holds(" + n + ", 0)", x.holds(n, 0), -1);
        }
        bench.due("holds(2, -1)", x.holds(2, -1), -1);
        bench.due("holds(2, 4)", x.holds(2, 4), -1);
        bench.due("holds(2, MAX)", x.holds(2, Integer.MAX_VALUE), -1);
        bench.due("holds(2, MIN)", x.holds(2, Integer.MIN_VALUE), -1);
    }

    /** Models of three, one and two things in turn: none has to do with the one that was looked at before. */
    private static void thingsByTurns() {
        ProofBench x = bench.with("fun c 0;fun f 1;rel p 1;axiom a p f c;");
        Bench.read(x, "p f c");
        for (int turn = 0; turn < 40; turn++) {
            for (int n : new int[] {3, 1, 2}) {
                int models = n == 3 ? 648 : n == 1 ? 2 : 32;
                int model = n == 3 ? 647 - 16 * turn : turn % models;
                bench.due("holds(" + n + ", " + model + ") in turn " + turn, x.holds(n, model), isSoThere(n, model) ? 1 : 0);
            }
        }
        bench.due("hold(3)", x.hold(3), 324);
        bench.due("hold(1)", x.hold(1), 1);
        bench.due("hold(2)", x.hold(2), 16);
        Bench.read(x, "not p f c");
        // The first in which p f c is so: p of the last thing alone, c is the first, f of it the last.
        bench.due("counter(3)", x.counter(3), 81 + 2 * 9);
        bench.due("counter(1)", x.counter(1), 1);
        bench.due("counter(2)", x.counter(2), 8 + 2);
    }

    /** Digits of p, of c, of f; whether p f c is so. */
    private static boolean isSoThere(int n, int model) {
        int[] digits = new int[2 * n + 1];
        int rest = model;
        for (int i = digits.length - 1; i >= 0; i--) {
            int base = i < n ? 2 : n;
            digits[i] = rest % base;
            rest /= base;
        }
        return digits[digits[n + 1 + digits[n]]] == 1;
    }

    private static void theoriesComeAndGo() {
        ProofBench x = bench.with("rel p 1;axiom a all x p x;");
        Bench.read(x, "p u");
        bench.due("hold", x.hold(2), 1);
        bench.due("counter", x.counter(2), -1);
        bench.due("fault", Bench.theory(x, "rel p 1;axiom a some x p x;p"), -1);
        bench.due("hold", x.hold(2), 1);
        bench.due("counter", x.counter(2), -1);
        bench.due("theory", Bench.theory(x, "rel p 1;axiom a some x p x;"), 1);
        bench.due("counter, none read", x.counter(2), -1);
        bench.due("hold", x.hold(2), 3);
        Bench.read(x, "p u");
        bench.due("counter", x.counter(2), 1);
    }
}
