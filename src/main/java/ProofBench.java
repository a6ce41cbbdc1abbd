/** A small checker of proofs, first-order and with equality; README.md tells how it is used. */
public final class ProofBench {
    public static final int NONE = -1;

    private static final int SPENT = -2;

    private static final int MOST_BYTES = 1600;
    private static final int BYTES_FED = 20;
    private static final int MOST_PIECES = 40;
    private static final int DEEPEST = 12;
    private static final int MOST_NESTED = 5;
    private static final int MOST_FREE = 12;
    private static final int MOST_RELS = 6;
    private static final int MOST_FUNS = 4;
    private static final int MOST_AXIOMS = 8;
    private static final int MOST_STEPS = 40;
    private static final int MOST_ASSUMED = 12;
    private static final int MOST_THEOREMS = 12;
    private static final int BOXES = 3;
    private static final int MOST_LETTERS = 12;
    private static final int MOST_TIMES = 60;
    private static final int MOST_THINGS = 3;
    private static final int MOST_MODELS = 4096;
    private static final int MOST_FREE_JUDGED = 4;

    // The words that stand for themselves, by number; the first seven are pieces of rows, too.
    private static final int FALSE = 0;
    private static final int AND = 1;
    private static final int OR = 2;
    private static final int IMP = 3;
    private static final int ALL = 4;
    private static final int SOME = 5;
    private static final int SAME = 6;
    private static final int NOT = 7;
    private static final int REL = 8;
    private static final int FUN = 9;
    private static final int AXIOM = 10;
    private static final int ASSUME = 11;
    private static final int THEOREM = 12;
    private static final int BOTH = 13;
    private static final int LEFT = 14;
    private static final int RIGHT = 15;
    private static final int ORLEFT = 16;
    private static final int ORRIGHT = 17;
    private static final int CASE = 18;
    private static final int APPLY = 19;
    private static final int DEDUCE = 20;
    private static final int GENERAL = 21;
    private static final int SPECIAL = 22;
    private static final int EXIST = 23;
    private static final int OPEN = 24;
    private static final int REPLACE = 25;
    private static final int ABSURD = 26;
    private static final int CLASSIC = 27;
    private static final int KEY_COUNT = 28;

    private static final int FIRST_REL = 10;
    private static final int FIRST_FUN = 20;
    private static final int FIRST_BOUND = 40;
    private static final int FIRST_FREE = 60;

    // Faults of a text.
    private static final int NO_FAULT = 0;
    private static final int NO_TOKEN = 1;
    private static final int CANNOT_STAND = 2;
    private static final int TOLD_ALREADY = 3;
    private static final int BAD_NUMBER = 4;
    private static final int FREE_IN_AXIOM = 5;
    private static final int UNKNOWN_AXIOM = 6;

    // Causes for which a step is refused.
    private static final int NO_CAUSE = 0;
    private static final int NO_PREMISE = 1;
    private static final int WRONG_PREMISE = 2;
    private static final int WRONGLY_FREE = 3;
    private static final int WRONG_FORMULA = 4;
    private static final int TOO_MUCH = 5;

    private final byte[] tape = new byte[MOST_BYTES];
    private int tapeSize;
    private Theory theory = new Theory();
    private Theory spareTheory = new Theory();
    private Proof proof = new Proof();
    private Proof spareProof = new Proof();
    private final Shelf shelf = new Shelf();
    private final Shelf[] boxes = new Shelf[BOXES];
    private final Reader reader = new Reader();
    /** The formula that was read last; without pieces while there is none. */
    private final Row formula = new Row();
    private final Letters letters = new Letters();
    private final Judge judge = new Judge();
    private final Rewriter rewriter = new Rewriter();

    public ProofBench() {
        for (int i = 0; i < boxes.length; i++) {
            boxes[i] = new Shelf();
        }
    }

    public int feed(int a, int b, int c, int d, int e) {
        if (tapeSize + BYTES_FED > MOST_BYTES) {
            return NONE;
        }
        putNumber(a);
        putNumber(b);
        putNumber(c);
        putNumber(d);
        putNumber(e);
        return tapeSize;
    }

    public int end(int n) {
        if (n < 0 || n > tapeSize) {
            return NONE;
        }
        tapeSize = n;
        return n;
    }

    public int theory() {
        boolean sound = reader.takeTheory(tape, tapeSize, spareTheory);
        tapeSize = 0;
        if (!sound) {
            return NONE;
        }
        Theory former = theory;
        theory = spareTheory;
        spareTheory = former;
        proof.clear();
        shelf.clear();
        for (int i = 0; i < boxes.length; i++) {
            boxAt(i).clear();
        }
        formula.clear();
        rewriter.clear();
        judge.forget();
        return theory.axioms;
    }

    public int fault(int what) {
        switch (what) {
            case 0:
                return reader.faultKind;
            case 1:
                return reader.faultPlace;
            default:
                return NONE;
        }
    }

    public int prove() {
        boolean sound = reader.takeProof(tape, tapeSize, theory, spareProof);
        tapeSize = 0;
        if (!sound) {
            return NONE;
        }
        Proof former = proof;
        proof = spareProof;
        spareProof = former;
        proof.takeSteps(theory, shelf);
        return proof.taken;
    }

    public int refused(int what) {
        if (proof.cause == NO_CAUSE) {
            return NONE;
        }
        switch (what) {
            case 0:
                return proof.taken;
            case 1:
                return proof.cause;
            default:
                return NONE;
        }
    }

    public int step(int step, int what) {
        if (!proof.hasStep(step)) {
            return NONE;
        }
        Step it = proof.stepAt(step);
        switch (what) {
            case 0:
                return it.made.size;
            case 1:
                return it.assumedCount;
            case 2:
                return it.axioms;
            case 3:
                return it.theorems;
            default:
                return NONE;
        }
    }

    public int line(int step, int i) {
        return proof.hasStep(step) ? proof.stepAt(step).made.at(i) : NONE;
    }

    public int assumed(int step, int n, int i) {
        if (!proof.hasStep(step)) {
            return NONE;
        }
        int origin = proof.stepAt(step).assumedAt(n);
        return origin == NONE ? NONE : proof.stepAt(origin).made.at(i);
    }

    public int keep() {
        if (proof.cause != NO_CAUSE || proof.taken == 0) {
            return NONE;
        }
        Step last = proof.stepAt(proof.taken - 1);
        if (last.assumedCount > 0 || last.made.hasFree()) {
            return NONE;
        }
        return shelf.put(last);
    }

    public int theorem(int theorem, int i) {
        return shelf.has(theorem) ? shelf.rowAt(theorem).at(i) : NONE;
    }

    public int leans(int theorem, int what) {
        if (!shelf.has(theorem)) {
            return NONE;
        }
        switch (what) {
            case 0:
                return valueAt(shelf.axioms, theorem);
            case 1:
                return valueAt(shelf.theorems, theorem);
            case 2:
                return valueAt(shelf.through, theorem);
            default:
                return NONE;
        }
    }

    public int drop() {
        if (shelf.count <= 0) {
            return NONE;
        }
        shelf.count--;
        proof.clear();
        return shelf.count;
    }

    public int read() {
        boolean sound = reader.takeText(tape, tapeSize, theory, formula, false);
        tapeSize = 0;
        if (!sound) {
            formula.clear();
            return NONE;
        }
        return formula.size;
    }

    public int piece(int i) {
        return formula.at(i);
    }

    public int alike() {
        for (int i = 0; i < proof.taken; i++) {
            if (proof.stepAt(i).made.isLike(formula)) {
                return i;
            }
        }
        return NONE;
    }

    public long needs(int step) {
        return proof.hasStep(step) ? proof.stepAt(step).needs : NONE;
    }

    public int letters() {
        if (formula.size == 0) {
            return NONE;
        }
        letters.spell(formula, theory);
        return letters.count;
    }

    public int table() {
        if (formula.size == 0) {
            return NONE;
        }
        letters.spell(formula, theory);
        return letters.count > MOST_LETTERS ? SPENT : letters.rowsThatAreSo();
    }

    public int row() {
        if (formula.size == 0) {
            return NONE;
        }
        letters.spell(formula, theory);
        return letters.count > MOST_LETTERS ? SPENT : letters.firstRowNotSo();
    }

    public int rewrite() {
        boolean sound = reader.takeText(tape, tapeSize, theory, rewriter.term, true);
        tapeSize = 0;
        if (!sound) {
            rewriter.clear();
            return NONE;
        }
        return rewriter.makeNormal(theory);
    }

    public int normal(int i) {
        return rewriter.term.at(i);
    }

    public int rules() {
        return rewriter.ruleBits(theory);
    }

    public int models(int n) {
        return areThings(n) ? judge.modelCount(theory, n) : NONE;
    }

    public int hold(int n) {
        return areThings(n) ? judge.goodModels(theory, n) : NONE;
    }

    public int holds(int n, int model) {
        if (!areThings(n) || model < 0 || formula.size == 0) {
            return NONE;
        }
        return judge.holdsIn(theory, formula, n, model);
    }

    public int counter(int n) {
        if (!areThings(n) || formula.size == 0) {
            return NONE;
        }
        return judge.firstAgainst(theory, formula, n);
    }

    public int image(int box) {
        if (box < 0 || box >= boxes.length) {
            return NONE;
        }
        boxAt(box).copy(shelf);
        boxAt(box).filled = true;
        return shelf.count;
    }

    public int back(int box) {
        if (box < 0 || box >= boxes.length || !boxAt(box).filled) {
            return NONE;
        }
        shelf.copy(boxAt(box));
        proof.clear();
        return shelf.count;
    }

    public int about(int what) {
        switch (what) {
            case 0:
                return theory.rels;
            case 1:
                return theory.funs;
            case 2:
                return theory.axioms;
            case 3:
                return proof.taken;
            case 4:
                return shelf.count;
            case 5:
                return tapeSize;
            case 6:
                return formula.size;
            default:
                return NONE;
        }
    }

    private void putNumber(int number) {
        for (int shift = 24; shift >= 0; shift -= 8) {
            if (tapeSize >= 0 && tapeSize < tape.length) {
                tape[tapeSize] = (byte) (number >> shift);
                tapeSize++;
            }
        }
    }

    private Shelf boxAt(int box) {
        return box >= 0 && box < boxes.length ? boxes[box] : shelf;
    }

    private static boolean areThings(int n) {
        return n >= 1 && n <= MOST_THINGS;
    }

    private static int valueAt(int[] values, int i) {
        return i >= 0 && i < values.length ? values[i] : NONE;
    }

    private static void putAt(int[] values, int i, int value) {
        if (i >= 0 && i < values.length) {
            values[i] = value;
        }
    }

    private static boolean isQuantifier(int piece) {
        return piece == ALL || piece == SOME;
    }

    private static boolean isBound(int piece) {
        return piece >= FIRST_BOUND && piece < FIRST_FREE;
    }

    private static boolean isFun(int piece) {
        return piece >= FIRST_FUN && piece < FIRST_FUN + MOST_FUNS;
    }

    /** A formula or a term as a row of pieces. */
    private static final class Row {
        private final int[] pieces = new int[MOST_PIECES];
        int size;
        /** A piece found no room: the row is not what it should have been. */
        boolean over;

        void clear() {
            size = 0;
            over = false;
        }

        int at(int i) {
            return i >= 0 && i < size && i < pieces.length ? pieces[i] : NONE;
        }

        void add(int piece) {
            if (size >= 0 && size < pieces.length) {
                pieces[size] = piece;
                size++;
            } else {
                over = true;
            }
        }

        void addPart(Row from, int begin, int behind) {
            for (int i = begin; i < behind; i++) {
                add(from.at(i));
            }
        }

        void copy(Row from) {
            clear();
            addPart(from, 0, from.size);
        }

        void copyPart(Row from, int begin, int behind) {
            clear();
            addPart(from, begin, behind);
        }

        /** The two rows, one behind the other, under one piece. */
        void join(int piece, Row first, Row second) {
            clear();
            add(piece);
            addPart(first, 0, first.size);
            addPart(second, 0, second.size);
        }

        boolean isLike(Row other) {
            if (over || other.over || size != other.size) {
                return false;
            }
            for (int i = 0; i < size; i++) {
                if (at(i) != other.at(i)) {
                    return false;
                }
            }
            return true;
        }

        /** Whether a part of this row stands in another one, too, from a place on. */
        boolean isPartAt(int begin, int behind, Row other, int place) {
            for (int i = begin; i < behind; i++) {
                if (at(i) != other.at(place + i - begin)) {
                    return false;
                }
            }
            return true;
        }

        boolean contains(int piece) {
            for (int i = 0; i < size; i++) {
                if (at(i) == piece) {
                    return true;
                }
            }
            return false;
        }

        boolean hasFree() {
            for (int i = 0; i < size; i++) {
                if (at(i) >= FIRST_FREE) {
                    return true;
                }
            }
            return false;
        }
    }

    /** How the parts of a row lie in one another. */
    private static final class Shape {
        private final int[] ends = new int[MOST_PIECES];
        private final int[] depths = new int[MOST_PIECES];
        private final int[] nested = new int[MOST_PIECES];
        private int deepest;
        private int mostNested;

        void measure(Row row, Theory theory) {
            deepest = 0;
            mostNested = 0;
            putAt(depths, 0, 0);
            putAt(nested, 0, 0);
            // From the last piece on, so that the ends of the parts of each piece are known when it comes.
            for (int i = row.size - 1; i >= 0; i--) {
                int behind = i + 1;
                for (int parts = theory.arity(row.at(i)); parts > 0; parts--) {
                    behind = endAt(behind);
                }
                putAt(ends, i, behind);
            }
            for (int i = 0; i < row.size; i++) {
                int depth = valueAt(depths, i);
                int within = nestedAt(i) + (isQuantifier(row.at(i)) ? 1 : 0);
                deepest = Math.max(deepest, depth);
                mostNested = Math.max(mostNested, within);
                int begin = i + 1;
                for (int parts = theory.arity(row.at(i)); parts > 0; parts--) {
                    putAt(depths, begin, depth + 1);
                    putAt(nested, begin, within);
                    begin = endAt(begin);
                }
            }
        }

        /** Behind the part that begins at a piece. */
        int endAt(int i) {
            return i >= 0 && i < ends.length ? ends[i] : NONE;
        }

        /** How many all, some stand round a piece. */
        int nestedAt(int i) {
            return i >= 0 && i < nested.length ? nested[i] : 0;
        }

        boolean isTooDeep() {
            return deepest > DEEPEST || mostNested > MOST_NESTED;
        }
    }

    /** Relations, functions and axioms, as they are told. */
    private static final class Theory {
        private final long[] relNames = new long[MOST_RELS];
        private final long[] funNames = new long[MOST_FUNS];
        private final long[] axiomNames = new long[MOST_AXIOMS];
        /** By piece: how many parts stand behind it. */
        private final int[] arities = new int[FIRST_BOUND];
        private final Row[] axiomRows = new Row[MOST_AXIOMS];
        private final Row noRow = new Row();
        int rels;
        int funs;
        int axioms;

        Theory() {
            for (int i = 0; i < axiomRows.length; i++) {
                axiomRows[i] = new Row();
            }
            arities[AND] = 2;
            arities[OR] = 2;
            arities[IMP] = 2;
            arities[ALL] = 1;
            arities[SOME] = 1;
            arities[SAME] = 2;
        }

        void clear() {
            rels = 0;
            funs = 0;
            axioms = 0;
        }

        int relOf(long name) {
            return find(relNames, rels, name);
        }

        int funOf(long name) {
            return find(funNames, funs, name);
        }

        int axiomOf(long name) {
            return find(axiomNames, axioms, name);
        }

        boolean isSymbol(long name) {
            return find(relNames, rels, name) != NONE || find(funNames, funs, name) != NONE;
        }

        private static int find(long[] names, int count, long name) {
            for (int i = 0; i < count && i < names.length; i++) {
                if (names[i] == name) {
                    return i;
                }
            }
            return NONE;
        }

        boolean isFull(int sort) {
            switch (sort) {
                case REL:
                    return rels >= MOST_RELS;
                case FUN:
                    return funs >= MOST_FUNS;
                default:
                    return axioms >= MOST_AXIOMS;
            }
        }

        void addSymbol(int sort, long name, int arity) {
            if (sort == REL && rels >= 0 && rels < relNames.length) {
                putAt(arities, FIRST_REL + rels, arity);
                relNames[rels] = name;
                rels++;
            }
            if (sort == FUN && funs >= 0 && funs < funNames.length) {
                putAt(arities, FIRST_FUN + funs, arity);
                funNames[funs] = name;
                funs++;
            }
        }

        /** Names the axiom whose row was filled. */
        void addAxiom(long name) {
            if (axioms >= 0 && axioms < axiomNames.length) {
                axiomNames[axioms] = name;
                axioms++;
            }
        }

        Row axiomRow(int axiom) {
            return axiom >= 0 && axiom < axiomRows.length ? axiomRows[axiom] : noRow;
        }

        int arity(int piece) {
            return piece >= 0 && piece < arities.length ? arities[piece] : 0;
        }
    }

    /** The tokens of a text, one after the other. */
    private static final class Tokens {
        private static final String FORMULA_WORDS = "false and or imp all some same not rel fun axiom ";
        private static final String STEP_WORDS = "assume theorem both left right orleft orright case apply deduce ";
        private static final String MORE_STEP_WORDS = "general special exist open replace absurd classic ";
        private static final int MOST_LETTERS_OF_WORD = 8;
        private static final int MOST_DIGITS_OF_NUMBER = 4;

        static final int BEHIND_TEXT = 0;
        static final int BAD = 1;
        static final int NAME = 2;
        static final int KEY = 3;
        static final int NUMBER = 4;
        static final int SEMICOLON = 5;

        private final long[] keyWords = new long[KEY_COUNT];
        private byte[] text = new byte[0];
        private int size;
        private int behind;
        int kind;
        int place;
        /** Which of the words that stand for themselves it is; NONE for all other tokens. */
        int key;
        int number;
        long word;

        Tokens() {
            learn(FORMULA_WORDS, FALSE);
            learn(STEP_WORDS, ASSUME);
            learn(MORE_STEP_WORDS, GENERAL);
        }

        private void learn(String words, int first) {
            int at = first;
            long letters = 0;
            for (int i = 0; i < words.length(); i++) {
                int sign = words.charAt(i);
                if (sign != ' ') {
                    letters = withLetter(letters, sign);
                } else if (at >= 0 && at < keyWords.length) {
                    keyWords[at] = letters;
                    letters = 0;
                    at++;
                }
            }
        }

        void begin(byte[] bytes, int count) {
            text = bytes;
            size = count;
            behind = 0;
            advance();
        }

        void advance() {
            int at = behind;
            while (at < size && isBlank(byteAt(at))) {
                at++;
            }
            place = at;
            key = NONE;
            int sign = byteAt(at);
            if (at >= size) {
                kind = BEHIND_TEXT;
                behind = at;
            } else if (isLetter(sign)) {
                takeWord();
            } else if (isDigit(sign)) {
                takeDigits();
            } else {
                kind = sign == ';' ? SEMICOLON : BAD;
                behind = at + 1;
            }
        }

        private void takeWord() {
            int at = place;
            word = 0;
            while (at < size && isLetter(byteAt(at))) {
                word = withLetter(word, byteAt(at));
                at++;
            }
            behind = at;
            kind = at - place > MOST_LETTERS_OF_WORD ? BAD : NAME;
            for (int i = 0; i < keyWords.length && kind == NAME; i++) {
                if (keyWords[i] == word) {
                    kind = KEY;
                    key = i;
                }
            }
        }

        private void takeDigits() {
            int at = place;
            number = 0;
            while (at < size && isDigit(byteAt(at))) {
                number = number * 10 + byteAt(at) - '0';
                at++;
            }
            behind = at;
            kind = at - place > MOST_DIGITS_OF_NUMBER || isLetter(byteAt(at)) ? BAD : NUMBER;
        }

        private int byteAt(int i) {
            return i >= 0 && i < size && i < text.length ? text[i] & 255 : NONE;
        }

        /** Five bits a letter: words of eight letters fit into a long, and unlike words stay unlike. */
        private static long withLetter(long word, int letter) {
            return word * 32 + letter - 'a' + 1;
        }

        private static boolean isBlank(int sign) {
            return sign == 32 || sign == 10;
        }

        private static boolean isLetter(int sign) {
            return sign >= 'a' && sign <= 'z';
        }

        private static boolean isDigit(int sign) {
            return sign >= '0' && sign <= '9';
        }
    }

    /** Reads texts; keeps the first fault of the latest one. */
    private static final class Reader {
        private final Tokens tokens = new Tokens();
        private final long[] freeWords = new long[MOST_FREE];
        private int freeCount;
        private final long[] boundWords = new long[MOST_NESTED];
        private int boundCount;
        private Theory theory = new Theory();
        private Row row = new Row();
        /** How many nots round the token have their false still to come. */
        private int falsesDue;
        private boolean inAxiom;
        int faultKind = NO_FAULT;
        int faultPlace = NONE;

        boolean takeTheory(byte[] text, int size, Theory into) {
            into.clear();
            begin(text, size, into);
            // One line more than a theory has room for: that one is refused.
            int most = MOST_RELS + MOST_FUNS + MOST_AXIOMS + 1;
            for (int i = 0; i < most && tokens.kind != Tokens.BEHIND_TEXT; i++) {
                int sort = tokens.key;
                if (sort != REL && sort != FUN && sort != AXIOM || theory.isFull(sort)) {
                    return refuse(CANNOT_STAND);
                }
                tokens.advance();
                if (!(sort == AXIOM ? takeAxiom() : takeSymbol(sort))) {
                    return false;
                }
            }
            return true;
        }

        boolean takeProof(byte[] text, int size, Theory names, Proof into) {
            into.clear();
            begin(text, size, names);
            for (int i = 0; i <= MOST_STEPS && tokens.kind != Tokens.BEHIND_TEXT; i++) {
                if (i == MOST_STEPS) {
                    return refuse(CANNOT_STAND);
                }
                if (!takeStep(into.stepAt(i))) {
                    return false;
                }
                into.written = i + 1;
            }
            return true;
        }

        /** A text that is one formula, or one term. */
        boolean takeText(byte[] text, int size, Theory names, Row into, boolean asTerm) {
            begin(text, size, names);
            if (!takeWhole(into, asTerm)) {
                return false;
            }
            if (tokens.kind != Tokens.BEHIND_TEXT) {
                return refuse(CANNOT_STAND);
            }
            return true;
        }

        private void begin(byte[] text, int size, Theory names) {
            theory = names;
            freeCount = 0;
            boundCount = 0;
            inAxiom = false;
            faultKind = NO_FAULT;
            faultPlace = NONE;
            tokens.begin(text, size);
        }

        /** Always false: tokens are judged in their order, so the first fault that is found is the one that is told. */
        private boolean refuse(int kind) {
            faultKind = tokens.kind == Tokens.BAD ? NO_TOKEN : kind;
            faultPlace = tokens.place;
            return false;
        }

        private boolean takeSymbol(int sort) {
            if (tokens.kind != Tokens.NAME) {
                return refuse(CANNOT_STAND);
            }
            long name = tokens.word;
            if (theory.isSymbol(name)) {
                return refuse(TOLD_ALREADY);
            }
            tokens.advance();
            if (tokens.kind != Tokens.NUMBER) {
                return refuse(CANNOT_STAND);
            }
            int arity = tokens.number;
            if (arity > 2) {
                return refuse(BAD_NUMBER);
            }
            tokens.advance();
            if (!takeSemicolon()) {
                return false;
            }
            theory.addSymbol(sort, name, arity);
            return true;
        }

        private boolean takeAxiom() {
            if (tokens.kind != Tokens.NAME) {
                return refuse(CANNOT_STAND);
            }
            long name = tokens.word;
            if (theory.axiomOf(name) != NONE) {
                return refuse(TOLD_ALREADY);
            }
            tokens.advance();
            inAxiom = true;
            if (!takeWhole(theory.axiomRow(theory.axioms), false) || !takeSemicolon()) {
                return false;
            }
            theory.addAxiom(name);
            return true;
        }

        private boolean takeSemicolon() {
            if (tokens.kind != Tokens.SEMICOLON) {
                return refuse(CANNOT_STAND);
            }
            tokens.advance();
            return true;
        }

        private boolean takeStep(Step into) {
            int rule = tokens.key;
            if (!Step.isRule(rule)) {
                return refuse(CANNOT_STAND);
            }
            into.begin(rule);
            tokens.advance();
            for (int i = 0; i < Step.numbersOf(rule); i++) {
                if (tokens.kind != Tokens.NUMBER) {
                    return refuse(CANNOT_STAND);
                }
                putAt(into.numbers, i, tokens.number);
                tokens.advance();
            }
            if (rule == AXIOM && !takeAxiomName(into) || Step.hasX(rule) && !takeX(into)) {
                return false;
            }
            if (Step.hasTerm(rule) && !takeWhole(into.term, true)) {
                return false;
            }
            if (Step.hasFormula(rule) && !takeWhole(into.given, false)) {
                return false;
            }
            return takeSemicolon();
        }

        private boolean takeAxiomName(Step into) {
            if (tokens.kind != Tokens.NAME) {
                return refuse(CANNOT_STAND);
            }
            into.axiom = theory.axiomOf(tokens.word);
            if (into.axiom == NONE) {
                return refuse(UNKNOWN_AXIOM);
            }
            tokens.advance();
            return true;
        }

        private boolean takeX(Step into) {
            if (!isX()) {
                return refuse(CANNOT_STAND);
            }
            into.freePiece = freePiece();
            if (into.freePiece == NONE) {
                return refuse(CANNOT_STAND);
            }
            tokens.advance();
            return true;
        }

        private boolean takeWhole(Row into, boolean asTerm) {
            row = into;
            row.clear();
            falsesDue = 0;
            return asTerm ? takeTerm(0) : takeFormula(0);
        }

        private boolean takeFormula(int depth) {
            if (tokens.key == NOT) {
                return takeNot(depth);
            }
            int piece = formulaPiece();
            boolean tooMany = isQuantifier(piece) && boundCount >= MOST_NESTED;
            if (piece == NONE || tooMany || !hasRoom(depth, 1)) {
                return refuse(CANNOT_STAND);
            }
            row.add(piece);
            tokens.advance();
            if (isQuantifier(piece)) {
                return takeBound(depth);
            }
            return takeParts(piece, depth + 1);
        }

        private boolean takeParts(int piece, int depth) {
            for (int parts = theory.arity(piece); parts > 0; parts--) {
                if (!(piece >= SAME ? takeTerm(depth) : takeFormula(depth))) {
                    return false;
                }
            }
            return true;
        }

        private int formulaPiece() {
            if (tokens.key >= FALSE && tokens.key <= SAME) {
                return tokens.key;
            }
            int rel = tokens.kind == Tokens.NAME ? theory.relOf(tokens.word) : NONE;
            return rel == NONE ? NONE : FIRST_REL + rel;
        }

        private boolean hasRoom(int depth, int more) {
            return depth <= DEEPEST && row.size + falsesDue + more <= MOST_PIECES;
        }

        /** The false comes last in the row, but its place in the text is that of the not, so it is counted from there. */
        private boolean takeNot(int depth) {
            if (!hasRoom(depth + 1, 2)) {
                return refuse(CANNOT_STAND);
            }
            row.add(IMP);
            tokens.advance();
            falsesDue++;
            if (!takeFormula(depth + 1)) {
                return false;
            }
            falsesDue--;
            row.add(FALSE);
            return true;
        }

        private boolean takeBound(int depth) {
            if (!isX()) {
                return refuse(CANNOT_STAND);
            }
            if (boundCount >= 0 && boundCount < boundWords.length) {
                boundWords[boundCount] = tokens.word;
                boundCount++;
            }
            tokens.advance();
            boolean sound = takeFormula(depth + 1);
            boundCount--;
            return sound;
        }

        private boolean takeTerm(int depth) {
            if (tokens.kind != Tokens.NAME || !hasRoom(depth, 1)) {
                return refuse(CANNOT_STAND);
            }
            int fun = theory.funOf(tokens.word);
            if (fun == NONE && !isX()) {
                return refuse(CANNOT_STAND);
            }
            int piece = fun == NONE ? pieceOfX() : FIRST_FUN + fun;
            if (piece == NONE) {
                return refuse(inAxiom ? FREE_IN_AXIOM : CANNOT_STAND);
            }
            row.add(piece);
            tokens.advance();
            return takeParts(piece, depth + 1);
        }

        private boolean isX() {
            return tokens.kind == Tokens.NAME && !theory.isSymbol(tokens.word);
        }

        private int pieceOfX() {
            for (int nearer = 0; nearer < boundCount; nearer++) {
                int at = boundCount - 1 - nearer;
                if (at >= 0 && at < boundWords.length && boundWords[at] == tokens.word) {
                    return FIRST_BOUND + nearer;
                }
            }
            return inAxiom ? NONE : freePiece();
        }

        /** NONE for a thirteenth one. */
        private int freePiece() {
            for (int i = 0; i < freeCount && i < freeWords.length; i++) {
                if (freeWords[i] == tokens.word) {
                    return FIRST_FREE + i;
                }
            }
            if (freeCount < 0 || freeCount >= freeWords.length) {
                return NONE;
            }
            freeWords[freeCount] = tokens.word;
            freeCount++;
            return FIRST_FREE + freeCount - 1;
        }
    }

    /** A step of a proof: what its text tells, and what it came to. */
    private static final class Step {
        private static final int MOST_PREMISES = 3;

        int rule;
        final int[] numbers = new int[MOST_PREMISES];
        int axiom;
        int freePiece;
        final Row term = new Row();
        final Row given = new Row();
        final Row made = new Row();
        /** What it assumes, as numbers of the steps that assume that first. */
        private final int[] assumed = new int[MOST_ASSUMED];
        int assumedCount;
        boolean assumesTooMuch;
        int axioms;
        int theorems;
        long needs;

        static boolean isRule(int key) {
            return key == SAME || key >= AXIOM && key <= CLASSIC;
        }

        /** How many numbers stand behind the word of a rule. */
        static int numbersOf(int rule) {
            switch (rule) {
                case SAME:
                case AXIOM:
                case ASSUME:
                    return 0;
                case BOTH:
                case APPLY:
                case OPEN:
                case REPLACE:
                    return 2;
                case CASE:
                    return 3;
                default:
                    return 1;
            }
        }

        static int premisesOf(int rule) {
            return rule == THEOREM ? 0 : numbersOf(rule);
        }

        static boolean hasX(int rule) {
            return rule == GENERAL || rule == OPEN;
        }

        static boolean hasTerm(int rule) {
            return rule == SPECIAL || rule == EXIST || rule == SAME;
        }

        static boolean hasFormula(int rule) {
            switch (rule) {
                case ASSUME:
                case ORLEFT:
                case ORRIGHT:
                case DEDUCE:
                case EXIST:
                case REPLACE:
                case ABSURD:
                case CLASSIC:
                    return true;
                default:
                    return false;
            }
        }

        void begin(int newRule) {
            rule = newRule;
            axiom = NONE;
            freePiece = NONE;
            term.clear();
            given.clear();
            made.clear();
            assumedCount = 0;
            assumesTooMuch = false;
            axioms = 0;
            theorems = 0;
            needs = 0;
        }

        int number(int i) {
            return valueAt(numbers, i);
        }

        int assumedAt(int n) {
            return n < assumedCount ? valueAt(assumed, n) : NONE;
        }

        void addAssumed(int origin) {
            if (assumedCount >= 0 && assumedCount < assumed.length) {
                assumed[assumedCount] = origin;
                assumedCount++;
            } else {
                assumesTooMuch = true;
            }
        }

        void leanAs(Step premise) {
            axioms |= premise.axioms;
            theorems |= premise.theorems;
            needs |= premise.needs;
        }
    }

    /** The steps of a proof, taken one after the other as long as their rules allow. */
    private static final class Proof {
        private final Step[] steps = new Step[MOST_STEPS];
        private final Step noStep = new Step();
        /** What is left out of what the first, second, third premise assumes; empty for nothing. */
        private final Row[] leftOut = new Row[Step.MOST_PREMISES];
        private final Row noRow = new Row();
        private final Row madeOf = new Row();
        private final Shape shape = new Shape();
        private Theory theory = new Theory();
        int written;
        int taken;
        int cause;

        Proof() {
            for (int i = 0; i < steps.length; i++) {
                steps[i] = new Step();
            }
            for (int i = 0; i < leftOut.length; i++) {
                leftOut[i] = new Row();
            }
        }

        void clear() {
            written = 0;
            taken = 0;
            cause = NO_CAUSE;
        }

        boolean hasStep(int i) {
            return i >= 0 && i < taken;
        }

        Step stepAt(int i) {
            return i >= 0 && i < steps.length ? steps[i] : noStep;
        }

        void takeSteps(Theory names, Shelf shelf) {
            theory = names;
            for (int i = 0; i < written; i++) {
                cause = takeOne(i, shelf);
                if (cause != NO_CAUSE) {
                    return;
                }
                taken = i + 1;
            }
        }

        private int takeOne(int i, Shelf shelf) {
            Step it = stepAt(i);
            if (!hasPremises(it, i, shelf)) {
                return NO_PREMISE;
            }
            for (int k = 0; k < leftOut.length; k++) {
                outAt(k).clear();
            }
            int found = make(it, i, shelf);
            if (found != NO_CAUSE) {
                return found;
            }
            it.needs = 1L << i;
            for (int k = 0; k < Step.premisesOf(it.rule); k++) {
                it.leanAs(premise(it, k));
                gather(it, premise(it, k), outAt(k));
            }
            return isTooMuch(it) ? TOO_MUCH : NO_CAUSE;
        }

        private boolean hasPremises(Step it, int i, Shelf shelf) {
            if (it.rule == THEOREM) {
                return shelf.has(it.number(0));
            }
            for (int k = 0; k < Step.premisesOf(it.rule); k++) {
                if (it.number(k) >= i) {
                    return false;
                }
            }
            return true;
        }

        private Step premise(Step it, int k) {
            return stepAt(it.number(k));
        }

        private Row outAt(int k) {
            return k >= 0 && k < leftOut.length ? leftOut[k] : noRow;
        }

        private void gather(Step it, Step premise, Row out) {
            for (int n = 0; n < premise.assumedCount; n++) {
                int origin = premise.assumedAt(n);
                Row row = stepAt(origin).made;
                if (!row.isLike(out) && !assumes(it, row)) {
                    it.addAssumed(origin);
                }
            }
        }

        private boolean assumes(Step it, Row row) {
            for (int n = 0; n < it.assumedCount; n++) {
                if (stepAt(it.assumedAt(n)).made.isLike(row)) {
                    return true;
                }
            }
            return false;
        }

        private boolean isTooMuch(Step it) {
            if (it.made.over || it.assumesTooMuch) {
                return true;
            }
            shape.measure(it.made, theory);
            return shape.isTooDeep();
        }

        /** The cause for which it can't be taken, so far as what it assumes and limits play no part. */
        private int make(Step it, int i, Shelf shelf) {
            Row a = premise(it, 0).made;
            switch (it.rule) {
                case ASSUME:
                case AXIOM:
                case THEOREM:
                case SAME:
                    return makeAlone(it, i, shelf);
                case BOTH:
                case ORLEFT:
                case ORRIGHT:
                case DEDUCE:
                    return joinParts(it, a);
                case LEFT:
                case RIGHT:
                    return takeHalf(it, a);
                case CASE:
                    return takeCases(it, a);
                case APPLY:
                    return apply(it, a, premise(it, 1).made);
                case GENERAL:
                    return generalise(it, a);
                case SPECIAL:
                    return specialise(it, a);
                case EXIST:
                    return makeSome(it, a);
                case OPEN:
                    return openSome(it, a, premise(it, 1));
                case REPLACE:
                    return exchange(it, a, premise(it, 1).made);
                default:
                    return fromFalse(it, a);
            }
        }

        private int makeAlone(Step it, int i, Shelf shelf) {
            switch (it.rule) {
                case ASSUME:
                    it.made.copy(it.given);
                    it.addAssumed(i);
                    break;
                case AXIOM:
                    it.made.copy(theory.axiomRow(it.axiom));
                    it.axioms = 1 << it.axiom;
                    break;
                case THEOREM:
                    it.made.copy(shelf.rowAt(it.number(0)));
                    it.theorems = 1 << it.number(0);
                    break;
                default:
                    it.made.join(SAME, it.term, it.term);
                    break;
            }
            return NO_CAUSE;
        }

        private int joinParts(Step it, Row a) {
            switch (it.rule) {
                case BOTH:
                    it.made.join(AND, a, premise(it, 1).made);
                    break;
                case ORLEFT:
                    it.made.join(OR, a, it.given);
                    break;
                case ORRIGHT:
                    it.made.join(OR, it.given, a);
                    break;
                default:
                    it.made.join(IMP, it.given, a);
                    outAt(0).copy(it.given);
                    break;
            }
            return NO_CAUSE;
        }

        private int takeHalf(Step it, Row a) {
            if (a.at(0) != AND) {
                return WRONG_PREMISE;
            }
            shape.measure(a, theory);
            int middle = shape.endAt(1);
            if (it.rule == LEFT) {
                it.made.copyPart(a, 1, middle);
            } else {
                it.made.copyPart(a, middle, a.size);
            }
            return NO_CAUSE;
        }

        private int takeCases(Step it, Row a) {
            Row b = premise(it, 1).made;
            if (a.at(0) != OR || !b.isLike(premise(it, 2).made)) {
                return WRONG_PREMISE;
            }
            shape.measure(a, theory);
            int middle = shape.endAt(1);
            outAt(1).copyPart(a, 1, middle);
            outAt(2).copyPart(a, middle, a.size);
            it.made.copy(b);
            return NO_CAUSE;
        }

        private int apply(Step it, Row a, Row b) {
            shape.measure(a, theory);
            int middle = shape.endAt(1);
            if (a.at(0) != IMP || middle - 1 != b.size || !a.isPartAt(1, middle, b, 0)) {
                return WRONG_PREMISE;
            }
            it.made.copyPart(a, middle, a.size);
            return NO_CAUSE;
        }

        private int fromFalse(Step it, Row a) {
            if (a.at(0) != FALSE) {
                return WRONG_PREMISE;
            }
            it.made.copy(it.given);
            if (it.rule == CLASSIC) {
                outAt(0).clear();
                outAt(0).add(IMP);
                outAt(0).addPart(it.given, 0, it.given.size);
                outAt(0).add(FALSE);
            }
            return NO_CAUSE;
        }

        private int generalise(Step it, Row a) {
            if (isFreeInAssumed(premise(it, 0), it.freePiece, noRow)) {
                return WRONGLY_FREE;
            }
            shape.measure(a, theory);
            it.made.clear();
            it.made.add(ALL);
            for (int i = 0; i < a.size; i++) {
                it.made.add(a.at(i) == it.freePiece ? FIRST_BOUND + shape.nestedAt(i) : a.at(i));
            }
            return NO_CAUSE;
        }

        private int specialise(Step it, Row a) {
            if (a.at(0) != ALL) {
                return WRONG_PREMISE;
            }
            putInto(it.made, a, it.term);
            return NO_CAUSE;
        }

        private boolean isFreeInAssumed(Step premise, int freePiece, Row out) {
            for (int n = 0; n < premise.assumedCount; n++) {
                Row row = stepAt(premise.assumedAt(n)).made;
                if (!row.isLike(out) && row.contains(freePiece)) {
                    return true;
                }
            }
            return false;
        }

        /** What stands behind the all or some that a row begins with, a term in place of what it binds. */
        private void putInto(Row into, Row quantified, Row term) {
            shape.measure(quantified, theory);
            into.clear();
            for (int i = 1; i < quantified.size; i++) {
                if (quantified.at(i) == FIRST_BOUND + shape.nestedAt(i) - 1) {
                    into.addPart(term, 0, term.size);
                } else {
                    into.add(quantified.at(i));
                }
            }
        }

        private int makeSome(Step it, Row a) {
            if (it.given.at(0) != SOME) {
                return WRONG_FORMULA;
            }
            putInto(madeOf, it.given, it.term);
            if (!madeOf.isLike(a)) {
                return WRONG_FORMULA;
            }
            it.made.copy(it.given);
            return NO_CAUSE;
        }

        private int openSome(Step it, Row a, Step second) {
            if (a.at(0) != SOME) {
                return WRONG_PREMISE;
            }
            it.term.clear();
            it.term.add(it.freePiece);
            putInto(outAt(1), a, it.term);
            boolean free = a.contains(it.freePiece) || second.made.contains(it.freePiece);
            if (free || isFreeInAssumed(second, it.freePiece, outAt(1))) {
                return WRONGLY_FREE;
            }
            it.made.copy(second.made);
            return NO_CAUSE;
        }

        private int exchange(Step it, Row a, Row b) {
            if (a.at(0) != SAME) {
                return WRONG_PREMISE;
            }
            if (!isExchanged(it.given, a, b)) {
                return WRONG_FORMULA;
            }
            it.made.copy(it.given);
            return NO_CAUSE;
        }

        /** Where both terms stand opposite one another, what comes behind them does not hang on which way is taken. */
        private boolean isExchanged(Row f, Row a, Row b) {
            shape.measure(a, theory);
            int middle = shape.endAt(1);
            int first = middle - 1;
            int second = a.size - middle;
            int at = 0;
            int atB = 0;
            for (int turn = 0; turn < MOST_PIECES && at < f.size && atB < b.size; turn++) {
                if (a.isPartAt(1, middle, b, atB) && a.isPartAt(middle, a.size, f, at)) {
                    at += second;
                    atB += first;
                } else if (f.at(at) == b.at(atB)) {
                    at++;
                    atB++;
                } else {
                    return false;
                }
            }
            return at == f.size && atB == b.size;
        }
    }

    /** Theorems, each with what it leans on. */
    private static final class Shelf {
        private final Row[] rows = new Row[MOST_THEOREMS];
        private final Row noRow = new Row();
        final int[] axioms = new int[MOST_THEOREMS];
        final int[] theorems = new int[MOST_THEOREMS];
        /** Axioms on which it leans, through theorems, too. */
        final int[] through = new int[MOST_THEOREMS];
        int count;
        /** Of a box: something was kept in it. */
        boolean filled;

        Shelf() {
            for (int i = 0; i < rows.length; i++) {
                rows[i] = new Row();
            }
        }

        void clear() {
            count = 0;
            filled = false;
        }

        boolean has(int theorem) {
            return theorem >= 0 && theorem < count;
        }

        Row rowAt(int theorem) {
            return theorem >= 0 && theorem < rows.length ? rows[theorem] : noRow;
        }

        int put(Step last) {
            if (count >= MOST_THEOREMS) {
                return NONE;
            }
            int all = last.axioms;
            for (int i = 0; i < count; i++) {
                if ((last.theorems >> i & 1) != 0) {
                    all |= valueAt(through, i);
                }
            }
            rowAt(count).copy(last.made);
            putAt(axioms, count, last.axioms);
            putAt(theorems, count, last.theorems);
            putAt(through, count, all);
            count++;
            return count - 1;
        }

        void copy(Shelf from) {
            count = from.count;
            for (int i = 0; i < count; i++) {
                rowAt(i).copy(from.rowAt(i));
                putAt(axioms, i, valueAt(from.axioms, i));
                putAt(theorems, i, valueAt(from.theorems, i));
                putAt(through, i, valueAt(from.through, i));
            }
        }
    }

    /** A formula as it is made of letters, and its truth table. */
    private static final class Letters {
        private static final int FIRST_LETTER = 4;

        private final Shape shape = new Shape();
        /** The formula with one sign for each letter. */
        private final int[] signs = new int[MOST_PIECES];
        private int signCount;
        private final int[] begins = new int[MOST_PIECES];
        int count;
        private final int[] stack = new int[MOST_PIECES];
        private int height;

        void spell(Row row, Theory theory) {
            shape.measure(row, theory);
            signCount = 0;
            count = 0;
            int i = 0;
            while (i < row.size) {
                boolean isLetter = row.at(i) >= FIRST_LETTER;
                putAt(signs, signCount, isLetter ? FIRST_LETTER + letterAt(row, i) : row.at(i));
                signCount++;
                i = isLetter ? Math.max(i + 1, shape.endAt(i)) : i + 1;
            }
        }

        private int letterAt(Row row, int i) {
            for (int k = 0; k < count; k++) {
                if (row.isPartAt(i, shape.endAt(i), row, valueAt(begins, k))) {
                    return k;
                }
            }
            putAt(begins, count, i);
            count++;
            return count - 1;
        }

        int rowsThatAreSo() {
            int so = 0;
            for (int line = 0; line < rowCount(); line++) {
                if (isSo(line)) {
                    so++;
                }
            }
            return so;
        }

        int firstRowNotSo() {
            for (int line = 0; line < rowCount(); line++) {
                if (!isSo(line)) {
                    return line;
                }
            }
            return NONE;
        }

        private int rowCount() {
            return 1 << Math.min(count, MOST_LETTERS);
        }

        /** From the last sign on, so that the parts of each sign lie on the stack when it comes. */
        private boolean isSo(int line) {
            height = 0;
            for (int i = signCount - 1; i >= 0; i--) {
                int sign = valueAt(signs, i);
                if (sign >= FIRST_LETTER) {
                    push(line >> count - 1 - (sign - FIRST_LETTER) & 1);
                } else if (sign == FALSE) {
                    push(0);
                } else {
                    int first = pop();
                    push(join(sign, first, pop()));
                }
            }
            return pop() == 1;
        }

        private static int join(int sign, int first, int second) {
            switch (sign) {
                case AND:
                    return first & second;
                case OR:
                    return first | second;
                default:
                    return 1 - first | second;
            }
        }

        private void push(int bit) {
            putAt(stack, height, bit);
            height++;
        }

        private int pop() {
            height--;
            return valueAt(stack, height);
        }
    }

    /** Rewrites a term by the axioms that are rules. */
    private static final class Rewriter {
        final Row term = new Row();
        private final Row next = new Row();
        private final Shape termShape = new Shape();
        private final Shape ruleShape = new Shape();
        private final int[] begins = new int[MOST_NESTED];
        private final int[] ends = new int[MOST_NESTED];
        /** By axiom: where the sides of a rule begin; what is no rule has NONE as its right one. */
        private final int[] lefts = new int[MOST_AXIOMS];
        private final int[] rights = new int[MOST_AXIOMS];

        void clear() {
            term.clear();
        }

        int ruleBits(Theory theory) {
            findRules(theory);
            int bits = 0;
            for (int i = 0; i < theory.axioms; i++) {
                if (valueAt(rights, i) != NONE) {
                    bits |= 1 << i;
                }
            }
            return bits;
        }

        private void findRules(Theory theory) {
            for (int i = 0; i < theory.axioms; i++) {
                Row axiom = theory.axiomRow(i);
                int alls = 0;
                while (alls < axiom.size && axiom.at(alls) == ALL) {
                    alls++;
                }
                ruleShape.measure(axiom, theory);
                int left = alls + 1;
                int right = ruleShape.endAt(left);
                boolean isRule = axiom.at(alls) == SAME && isFun(axiom.at(left)) && leftHasAll(axiom, left, right);
                putAt(lefts, i, left);
                putAt(rights, i, isRule ? right : NONE);
            }
        }

        private boolean leftHasAll(Row axiom, int left, int right) {
            for (int i = right; i < axiom.size; i++) {
                boolean found = !isBound(axiom.at(i));
                for (int k = left; k < right && !found; k++) {
                    found = axiom.at(k) == axiom.at(i);
                }
                if (!found) {
                    return false;
                }
            }
            return true;
        }

        int makeNormal(Theory theory) {
            findRules(theory);
            termShape.measure(term, theory);
            for (int times = 0; times <= MOST_TIMES; times++) {
                if (!goOn(theory)) {
                    return times;
                }
                term.copy(next);
                termShape.measure(term, theory);
                if (next.over || termShape.isTooDeep()) {
                    break;
                }
            }
            term.clear();
            return SPENT;
        }

        /** The term rewritten once comes into next; false if it is normal. */
        private boolean goOn(Theory theory) {
            for (int at = 0; at < term.size; at++) {
                for (int i = 0; i < theory.axioms && isFun(term.at(at)); i++) {
                    int right = valueAt(rights, i);
                    if (right != NONE && stands(theory.axiomRow(i), valueAt(lefts, i), right, at)) {
                        putRight(theory.axiomRow(i), right, at);
                        return true;
                    }
                }
            }
            return false;
        }

        private boolean stands(Row axiom, int left, int right, int place) {
            for (int k = 0; k < MOST_NESTED; k++) {
                putAt(begins, k, NONE);
            }
            int at = place;
            for (int i = left; i < right; i++) {
                int piece = axiom.at(i);
                if (isBound(piece)) {
                    if (!binds(piece - FIRST_BOUND, at)) {
                        return false;
                    }
                    at = termShape.endAt(at);
                } else if (piece == term.at(at)) {
                    at++;
                } else {
                    return false;
                }
            }
            return true;
        }

        private boolean binds(int x, int at) {
            int behind = termShape.endAt(at);
            int begin = valueAt(begins, x);
            if (begin == NONE) {
                putAt(begins, x, at);
                putAt(ends, x, behind);
                return true;
            }
            return behind - at == valueAt(ends, x) - begin && term.isPartAt(at, behind, term, begin);
        }

        private void putRight(Row axiom, int right, int at) {
            next.clear();
            next.addPart(term, 0, at);
            for (int i = right; i < axiom.size; i++) {
                int piece = axiom.at(i);
                if (isBound(piece)) {
                    int x = piece - FIRST_BOUND;
                    next.addPart(term, valueAt(begins, x), valueAt(ends, x));
                } else {
                    next.add(piece);
                }
            }
            next.addPart(term, termShape.endAt(at), term.size);
        }
    }

    /** Goes through small models by number. */
    private static final class Judge {
        /** Each table has a digit for each pair of things at most. */
        private static final int MOST_DIGITS = (MOST_RELS + MOST_FUNS) * MOST_THINGS * MOST_THINGS;
        private static final int BITS = 64;
        private static final int WORDS = MOST_MODELS / BITS;

        private final int[] bases = new int[MOST_DIGITS];
        private final int[] digits = new int[MOST_DIGITS];
        private int digitCount;
        private final int[] relStarts = new int[MOST_RELS];
        private final int[] funStarts = new int[MOST_FUNS];
        private final Shape[] shapes = new Shape[MOST_AXIOMS];
        private final Shape formulaShape = new Shape();
        private final int[] boundThings = new int[MOST_NESTED];
        private final int[] freeThings = new int[MOST_FREE];
        private final int[] freeNumbers = new int[MOST_FREE];
        private int freeCount;
        private int things;
        /** By number of things: models that were looked at, and those in which all axioms hold. */
        private final long[] known = new long[MOST_THINGS * WORDS];
        private final long[] good = new long[MOST_THINGS * WORDS];
        private Row row = new Row();
        private Shape shape = new Shape();
        private Theory theory = new Theory();

        Judge() {
            for (int i = 0; i < shapes.length; i++) {
                shapes[i] = new Shape();
            }
        }

        /** Of the former theory. */
        void forget() {
            for (int i = 0; i < known.length; i++) {
                known[i] = 0;
            }
        }

        int modelCount(Theory names, int n) {
            long count = layTables(names, n);
            return count > MOST_MODELS ? SPENT : (int) count;
        }

        int goodModels(Theory names, int n) {
            int count = modelCount(names, n);
            int found = 0;
            measureAxioms();
            for (int model = 0; model < count; model++) {
                if (isGood(model)) {
                    found++;
                }
            }
            return count == SPENT ? SPENT : found;
        }

        int holdsIn(Theory names, Row formula, int n, int model) {
            long count = layTables(names, n);
            if (model >= count) {
                return NONE;
            }
            findFree(formula);
            if (count > MOST_MODELS || freeCount > MOST_FREE_JUDGED) {
                return SPENT;
            }
            formulaShape.measure(formula, theory);
            setDigits(model);
            return isSoForAll(formula) ? 1 : 0;
        }

        int firstAgainst(Theory names, Row formula, int n) {
            int count = modelCount(names, n);
            findFree(formula);
            if (count == SPENT || freeCount > MOST_FREE_JUDGED) {
                return SPENT;
            }
            measureAxioms();
            formulaShape.measure(formula, theory);
            for (int model = 0; model < count; model++) {
                if (isGood(model)) {
                    setDigits(model);
                    if (!isSoForAll(formula)) {
                        return model;
                    }
                }
            }
            return NONE;
        }

        /** How many models there are, or a number that is beyond all that are gone through and all ints. */
        private long layTables(Theory names, int n) {
            theory = names;
            things = n;
            digitCount = 0;
            for (int i = 0; i < theory.rels; i++) {
                putAt(relStarts, i, digitCount);
                addDigits(2, theory.arity(FIRST_REL + i));
            }
            for (int i = 0; i < theory.funs; i++) {
                putAt(funStarts, i, digitCount);
                addDigits(n, theory.arity(FIRST_FUN + i));
            }
            long count = 1;
            for (int i = 0; i < digitCount; i++) {
                count = Math.min(count * valueAt(bases, i), 1L << 40);
            }
            return count;
        }

        private void addDigits(int base, int arity) {
            int count = arity == 0 ? 1 : arity == 1 ? things : things * things;
            for (int i = 0; i < count; i++) {
                putAt(bases, digitCount, base);
                digitCount++;
            }
        }

        private void setDigits(int model) {
            int rest = model;
            for (int i = digitCount - 1; i >= 0; i--) {
                int base = valueAt(bases, i);
                if (base > 0) {
                    putAt(digits, i, rest % base);
                    rest /= base;
                }
            }
        }

        private void measureAxioms() {
            for (int i = 0; i < theory.axioms; i++) {
                shapeAt(i).measure(theory.axiomRow(i), theory);
            }
        }

        private Shape shapeAt(int i) {
            return i >= 0 && i < shapes.length ? shapes[i] : formulaShape;
        }

        /** Whether all axioms hold in a model, looked through once only. */
        private boolean isGood(int model) {
            int at = (things - 1) * WORDS + model / BITS;
            long bit = 1L << model % BITS;
            if (at < 0 || at >= known.length || at >= good.length) {
                return false;
            }
            if ((known[at] & bit) == 0) {
                known[at] |= bit;
                good[at] = axiomsHold(model) ? good[at] | bit : good[at] & ~bit;
            }
            return (good[at] & bit) != 0;
        }

        private boolean axiomsHold(int model) {
            setDigits(model);
            for (int i = 0; i < theory.axioms; i++) {
                row = theory.axiomRow(i);
                shape = shapeAt(i);
                if (!isSo(0, 0, 0)) {
                    return false;
                }
            }
            return true;
        }

        private void findFree(Row formula) {
            freeCount = 0;
            for (int v = 0; v < MOST_FREE; v++) {
                if (formula.contains(FIRST_FREE + v)) {
                    putAt(freeNumbers, freeCount, v);
                    freeCount++;
                }
            }
        }

        /** In the model that is set, whatever its free ones are. */
        private boolean isSoForAll(Row formula) {
            row = formula;
            shape = formulaShape;
            int choices = 1;
            for (int i = 0; i < freeCount; i++) {
                choices *= things;
            }
            for (int choice = 0; choice < choices; choice++) {
                int rest = choice;
                for (int i = 0; i < freeCount && things > 0; i++) {
                    putAt(freeThings, valueAt(freeNumbers, i), rest % things);
                    rest /= things;
                }
                if (!isSo(0, 0, 0)) {
                    return false;
                }
            }
            return true;
        }

        private boolean isSo(int i, int nested, int depth) {
            if (depth > DEEPEST) {
                return false;
            }
            int piece = row.at(i);
            switch (piece) {
                case FALSE:
                    return false;
                case AND:
                case OR:
                case IMP:
                    return isSoOfTwo(i, nested, depth + 1);
                case ALL:
                case SOME:
                    return isSoForThings(i, nested, depth);
                case SAME:
                    return thingOf(i + 1, nested, depth + 1) == thingOf(shape.endAt(i + 1), nested, depth + 1);
                default:
                    return valueAt(digits, valueAt(relStarts, piece - FIRST_REL) + place(i, nested, depth)) == 1;
            }
        }

        private boolean isSoOfTwo(int i, int nested, int depth) {
            boolean first = isSo(i + 1, nested, depth);
            switch (row.at(i)) {
                case AND:
                    return first && isSo(shape.endAt(i + 1), nested, depth);
                case OR:
                    return first || isSo(shape.endAt(i + 1), nested, depth);
                default:
                    return !first || isSo(shape.endAt(i + 1), nested, depth);
            }
        }

        private boolean isSoForThings(int i, int nested, int depth) {
            boolean all = row.at(i) == ALL;
            for (int thing = 0; thing < things; thing++) {
                putAt(boundThings, nested, thing);
                if (isSo(i + 1, nested + 1, depth + 1) != all) {
                    return !all;
                }
            }
            return all;
        }

        private int thingOf(int i, int nested, int depth) {
            if (depth > DEEPEST) {
                return 0;
            }
            int piece = row.at(i);
            if (piece >= FIRST_FREE) {
                return valueAt(freeThings, piece - FIRST_FREE);
            }
            if (isBound(piece)) {
                return valueAt(boundThings, nested - 1 - (piece - FIRST_BOUND));
            }
            return valueAt(digits, valueAt(funStarts, piece - FIRST_FUN) + place(i, nested, depth));
        }

        /** Where in its table the things behind a relation or function are told. */
        private int place(int i, int nested, int depth) {
            int arity = theory.arity(row.at(i));
            if (arity == 0) {
                return 0;
            }
            int first = thingOf(i + 1, nested, depth + 1);
            return arity == 1 ? first : first * things + thingOf(shape.endAt(i + 1), nested, depth + 1);
        }
    }
}
