/**
 * The form of each line, step, formula and term, token by token: cut off behind each of them, and with each other token
 * in its place.
 */
public final class FormsTest {
    private static final Bench bench = new Bench();
    private static final String THEORY = "rel n 0;rel p 1;rel q 2;fun c 0;fun g 1;fun h 2;axiom a n;";

    // Which token may stand at a place.
    private static final char NAME_OF_SYMBOL = 'S';
    private static final char NAME_OF_NEW_AXIOM = 'B';
    private static final char NAME_OF_AXIOM = 'A';
    private static final char ARITY = '2';
    private static final char NUMBER = 'N';
    private static final char AN_X = 'X';
    private static final char TERM = 't';
    private static final char TERM_WITHOUT_FREE = 'u';
    private static final char FORMULA = 'f';
    private static final char STEP_OR_END = 's';
    private static final char LINE_OR_END = 'l';
    private static final char END = '.';
    private static final char SEMICOLON = ';';

    private static final String[] TOKENS = {"n", "c", "a", "x", "zz", "abcdefgh", "false", "all", "same", "rel", "fun", "axiom",
        "assume", "theorem", "left", "open", "classic", "0", "2", "3", "0003", "9999", ";"};
    private static final String[] NO_TOKENS = {"abcdefghi", "12345", "0x", "A", "_", ",", "-1", "\t"};

    private interface Act {
        int on(ProofBench x);
    }

    public static void main(String[] args) {
        lines();
        formulasOfLines();
        steps();
        formulasOfSteps();
        formulas();
        terms();
        bench.finish("FormsTest");
    }

    private static void lines() {
        Act theory = o -> o.theory();
        forms(THEORY, "rel r 0 ;", "S2;l", theory);
        forms(THEORY, "rel r 1 ;", "S2;l", theory);
        forms(THEORY, "rel r 2 ;", "S2;l", theory);
        forms(THEORY, "fun r 0 ;", "S2;l", theory);
        forms(THEORY, "fun r 1 ;", "S2;l", theory);
        forms(THEORY, "fun r 2 ;", "S2;l", theory);
        forms(THEORY, "axiom b n ;", "Bf;l", theory);
    }

    private static void formulasOfLines() {
        Act theory = o -> o.theory();
        forms(THEORY, "axiom b false ;", "Bf;l", theory);
        forms(THEORY, "axiom b not n ;", "Bff;l", theory);
        forms(THEORY, "axiom b and n n ;", "Bfff;l", theory);
        forms(THEORY, "axiom b or n n ;", "Bfff;l", theory);
        forms(THEORY, "axiom b imp n n ;", "Bfff;l", theory);
        forms(THEORY, "axiom b all x n ;", "BfXf;l", theory);
        forms(THEORY, "axiom b some x n ;", "BfXf;l", theory);
        forms(THEORY, "axiom b same c c ;", "Bfuu;l", theory);
        forms(THEORY, "axiom b p c ;", "Bfu;l", theory);
        forms(THEORY, "axiom b q c c ;", "Bfuu;l", theory);
        forms(THEORY, "axiom b p g c ;", "Bfuu;l", theory);
        forms(THEORY, "axiom b p h c c ;", "Bfuuu;l", theory);
    }

    private static void steps() {
        Act prove = o -> o.prove();
        forms("", "assume n ;", "f;s", prove);
        forms("", "axiom a ;", "A;s", prove);
        forms("", "theorem 0 ;", "N;s", prove);
        forms("", "both 0 0 ;", "NN;s", prove);
        forms("", "left 0 ;", "N;s", prove);
        forms("", "right 0 ;", "N;s", prove);
        forms("", "orleft 0 n ;", "Nf;s", prove);
        forms("", "orright 0 n ;", "Nf;s", prove);
        forms("", "case 0 0 0 ;", "NNN;s", prove);
        forms("", "apply 0 0 ;", "NN;s", prove);
        forms("", "deduce 0 n ;", "Nf;s", prove);
        forms("", "general 0 x ;", "NX;s", prove);
        forms("", "special 0 c ;", "Nt;s", prove);
        forms("", "exist 0 c n ;", "Ntf;s", prove);
        forms("", "open 0 0 x ;", "NNX;s", prove);
        forms("", "same c ;", "t;s", prove);
        forms("", "replace 0 0 n ;", "NNf;s", prove);
        forms("", "absurd 0 n ;", "Nf;s", prove);
        forms("", "classic 0 n ;", "Nf;s", prove);
        // Behind other steps it is the same.
        forms("axiom a;assume not p x;", "exist 0 c n ;", "Ntf;s", prove);
        forms("left 9;", "case 0 0 0 ;", "NNN;s", prove);
    }

    private static void formulasOfSteps() {
        Act prove = o -> o.prove();
        forms("", "assume not n ;", "ff;s", prove);
        forms("", "deduce 0 and n n ;", "Nfff;s", prove);
        forms("", "orleft 0 some x n ;", "NfXf;s", prove);
        forms("", "replace 0 0 same c c ;", "NNftt;s", prove);
        forms("", "exist 0 c some x n ;", "NtfXf;s", prove);
        forms("", "exist 0 h c c n ;", "Ntttf;s", prove);
        forms("", "same h c c ;", "ttt;s", prove);
        forms("", "special 0 g c ;", "Ntt;s", prove);
    }

    private static void formulas() {
        Act read = o -> o.read();
        forms("", "false", ".", read);
        forms("", "n", ".", read);
        forms("", "not n", "f.", read);
        forms("", "and n n", "ff.", read);
        forms("", "or n n", "ff.", read);
        forms("", "imp n n", "ff.", read);
        forms("", "all x n", "Xf.", read);
        forms("", "some x n", "Xf.", read);
        forms("", "same c c", "tt.", read);
        forms("", "p c", "t.", read);
        forms("", "q c c", "tt.", read);
        forms("", "p g c", "tt.", read);
        forms("", "same h c c c", "tttt.", read);
        forms("", "and not n all x p c", "fffXft.", read);
        first(FORMULA, o -> o.read());
    }

    private static void terms() {
        Act rewrite = o -> o.rewrite();
        forms("", "c", ".", rewrite);
        forms("", "x", ".", rewrite);
        forms("", "g c", "t.", rewrite);
        forms("", "h c c", "tt.", rewrite);
        forms("", "h g c h c c", "ttttt.", rewrite);
        first(TERM, rewrite);
    }

    /** Ahead of a form stands a text; of each token of it behind the first one it is told which may stand there. */
    private static void forms(String ahead, String form, String places, Act act) {
        String[] tokens = form.split(" ");
        String text = ahead + tokens[0];
        for (int i = 0; i < places.length(); i++) {
            char place = places.charAt(i);
            cutOff(text, place, act);
            others(text, place, act);
            if (i + 1 < tokens.length) {
                text = text + " " + tokens[i + 1];
            }
        }
        taken(text, act);
    }

    /** The first token of a formula or a term. */
    private static void first(char place, Act act) {
        bench.due("nothing", answer("", act), "fault 2 at 0");
        bench.due("a blank", answer(" ", act), "fault 2 at 1");
        for (String token : TOKENS) {
            int kind = kindOf(token, place);
            if (kind > 0) {
                bench.due(token, answer(token, act), "fault " + kind + " at 0");
                bench.due("blanks and " + token, answer(" \n " + token, act), "fault " + kind + " at 3");
            }
        }
        for (String token : NO_TOKENS) {
            bench.due(token, answer(token, act), "fault 1 at 0");
        }
    }

    private static void taken(String text, Act act) {
        bench.due(text, answer(text, act), "no fault");
        bench.due(text + " and blanks", answer(text + " \n", act), "no fault");
    }

    private static void cutOff(String text, char place, Act act) {
        if (place == STEP_OR_END || place == LINE_OR_END || place == END) {
            taken(text, act);
            return;
        }
        bench.due(text + " cut off", answer(text, act), "fault 2 at " + text.length());
        bench.due(text + " cut off behind a blank", answer(text + "\n ", act), "fault 2 at " + (text.length() + 2));
    }

    private static void others(String text, char place, Act act) {
        int at = text.length() + 1;
        for (String token : TOKENS) {
            int kind = kindOf(token, place);
            if (kind > 0) {
                String whole = text + " " + token;
                bench.due(whole, answer(whole, act), "fault " + kind + " at " + at);
                bench.due(whole + " and more", answer(whole + " ; assume n;_", act), "fault " + kind + " at " + at);
            }
        }
        for (String token : NO_TOKENS) {
            bench.due(text + " " + token, answer(text + " " + token, act), "fault 1 at " + at);
        }
    }

    /** The fault of a token at a place; 0 if it may stand there. */
    private static int kindOf(String token, char place) {
        boolean isNumber = Character.isDigit(token.charAt(0));
        boolean isName = isOneOf(token, "n c a x zz abcdefgh");
        boolean isX = isOneOf(token, "a x zz abcdefgh");
        switch (place) {
            case NAME_OF_SYMBOL:
                return !isName ? 2 : isX ? 0 : 3;
            case NAME_OF_NEW_AXIOM:
                return !isName ? 2 : token.equals("a") ? 3 : 0;
            case NAME_OF_AXIOM:
                return !isName ? 2 : token.equals("a") ? 0 : 6;
            case ARITY:
                return !isNumber ? 2 : Integer.parseInt(token) > 2 ? 4 : 0;
            case NUMBER:
                return isNumber ? 0 : 2;
            case AN_X:
                return isX ? 0 : 2;
            case TERM:
                return isX || token.equals("c") ? 0 : 2;
            case TERM_WITHOUT_FREE:
                return token.equals("c") ? 0 : isX ? 5 : 2;
            case FORMULA:
                return isOneOf(token, "n false all same") ? 0 : 2;
            case STEP_OR_END:
                return isOneOf(token, "axiom assume theorem left open same classic") ? 0 : 2;
            case LINE_OR_END:
                return isOneOf(token, "rel fun axiom") ? 0 : 2;
            case SEMICOLON:
                return token.equals(";") ? 0 : 2;
            default:
                return 2;
        }
    }

    private static boolean isOneOf(String token, String words) {
        return (" " + words + " ").contains(" " + token + " ");
    }

    private static String answer(String text, Act act) {
        ProofBench x = bench.with(THEORY);
        if (text.startsWith(THEORY)) {
            x = new ProofBench();
        }
        Bench.put(x, text);
        int answer = act.on(x);
        int left = x.about(5);
        if (left != 0) {
            return "the tape has " + left;
        }
        if (x.fault(0) == 0) {
            return answer >= 0 && x.fault(1) == -1 ? "no fault" : "no fault, but " + answer + ", " + x.fault(1);
        }
        return answer == -1 ? "fault " + Bench.fault(x) : "a fault, but " + answer;
    }
}
