/** Promises 19 to 21: letters of a formula, and its truth table. */
public final class TableTest {
    private static final Bench bench = new Bench();
    private static final String THEORY = "rel a 0;rel b 0;rel d 0;rel p 1;rel q 2;fun c 0;fun f 1;";

    public static void main(String[] args) {
        noFormula();
        tables();
        lettersAreParts();
        rowsByNumber();
        tooManyLetters();
        bench.finish("TableTest");
    }

    private static void table(String text, int letters, int table, int row) {
        ProofBench x = bench.with(THEORY);
        bench.due("read " + text, Bench.read(x, text) > 0 ? 1 : 0, 1);
        bench.due("letters of " + text, x.letters(), letters);
        bench.due("table of " + text, x.table(), table);
        bench.due("row of " + text, x.row(), row);
        bench.due("letters of " + text, x.letters(), letters);
    }

    private static void noFormula() {
        ProofBench x = bench.with(THEORY);
        bench.due("letters", x.letters(), -1);
        bench.due("table", x.table(), -1);
        bench.due("row", x.row(), -1);
        Bench.read(x, "a");
        bench.due("letters", x.letters(), 1);
        Bench.read(x, "a a");
        bench.due("letters after a fault", x.letters(), -1);
        bench.due("table after a fault", x.table(), -1);
        bench.due("row after a fault", x.row(), -1);
    }

    private static void tables() {
        table("false", 0, 0, 0);
        table("not false", 0, 1, -1);
        table("imp false false", 0, 1, -1);
        table("and not false false", 0, 0, 0);
        table("a", 1, 1, 0);
        table("not a", 1, 1, 1);
        table("and a b", 2, 1, 0);
        table("or a b", 2, 3, 0);
        table("imp a b", 2, 3, 2);
        table("imp b a", 2, 3, 2);
        table("and a a", 1, 1, 0);
        table("or a not a", 1, 2, -1);
        table("and a not a", 1, 0, 0);
        table("imp imp imp a b a a", 2, 4, -1);
        table("imp and imp a b imp b d imp a d", 3, 8, -1);
        table("imp imp a b imp b a", 2, 3, 1);
        table("imp imp a b imp d b", 3, 7, 1);
        table("and imp a b imp b a", 2, 2, 1);
        table("or and a b d", 3, 5, 0);
        table("not not not a", 1, 1, 1);
    }

    private static void lettersAreParts() {
        table("p x", 1, 1, 0);
        table("imp p x p y", 2, 3, 2);
        table("imp p x p x", 1, 2, -1);
        table("imp all x p x all y p y", 1, 2, -1);
        table("imp all x p x some y p y", 2, 3, 2);
        // The parts of an all, some are none of the formula.
        table("all x and p x a", 1, 1, 0);
        table("and a all x a", 2, 1, 0);
        table("or not some x and a b and a b", 3, 5, 4);
        table("imp same x y same y x", 2, 3, 2);
        table("imp same x y same x y", 1, 2, -1);
        table("imp same c f c same c f c", 1, 2, -1);
        table("imp q x y q y x", 2, 3, 2);
        table("imp q x y q x y", 1, 2, -1);
        table("imp all x all y q x y all y all x q x y", 2, 3, 2);
        table("imp all x q x y all z q z y", 1, 2, -1);
        table("imp p f x p f f x", 2, 3, 2);
        table("and p x and p f x and p x p f x", 2, 1, 0);
    }

    private static void rowsByNumber() {
        // The first letter counts most.
        table("imp a imp b d", 3, 7, 6);
        table("or d or b not a", 3, 7, 1);
        table("imp d imp b a", 3, 7, 6);
        table("or a or not b d", 3, 7, 2);
        table("or a or b not d", 3, 7, 1);
        table("or not a false", 1, 1, 1);
        table("imp p c imp p x or q c c a", 4, 15, 12);
    }

    private static void tooManyLetters() {
        String six = "and and a and b d and p c and p x p y";
        String more = "and and q c c and q x x q x y and q y x and same c x same x y";
        table("and " + six + " " + more.replace("same x y", "a"), 11, 1, 0);
        table("not and " + six + " " + more, 12, 4095, 4095);
        table("or " + six + " not " + more, 12, 4096 - 63, 63);
        ProofBench x = bench.with("rel a 0;rel b 0;rel d 0;rel p 1;fun c 0;fun f 1;");
        String many = "or or or or a b or d p c or or p f c p f f c or p x p y or or or p u p v or p f u p f v p w";
        Bench.read(x, many);
        bench.due("fault", Bench.fault(x), "0 at -1");
        bench.due("letters", x.letters(), 13);
        bench.due("table", x.table(), -2);
        bench.due("row", x.row(), -2);
        Bench.read(x, many.replace("p w", "p v"));
        bench.due("letters", x.letters(), 12);
        bench.due("table", x.table(), 4095);
        bench.due("row", x.row(), 0);
        Bench.read(x, "or not a a");
        bench.due("fewer again", x.table(), 2);
        x = bench.with("rel a 0;rel b 0;rel d 0;rel e 0;rel h 0;rel p 1;fun c 0;");
        Bench.read(x, "or not p s or or or or a b or d e or h p c or or or p x p y or p u p v or p w or p z p s");
        bench.due("letters", x.letters(), 13);
        bench.due("so in all, but too many letters", x.table(), -2);
        bench.due("so in all, but too many letters", x.row(), -2);
        // As many as 40 pieces can have.
        String[] most = {"a", "b", "d", "e", "h", "p c", "p i", "p j", "p k", "p l", "p m", "p n", "p o", "p q", "p r"};
        bench.due("read", Bench.read(x, ors(most, 0, most.length)), 39);
        bench.due("letters", x.letters(), 15);
        bench.due("table", x.table(), -2);
        bench.due("row", x.row(), -2);
        bench.due("letters still", x.letters(), 15);
    }

    private static String ors(String[] parts, int begin, int behind) {
        if (behind - begin == 1) {
            return parts[begin];
        }
        int middle = (begin + behind) / 2;
        return "or " + ors(parts, begin, middle) + " " + ors(parts, middle, behind);
    }
}
