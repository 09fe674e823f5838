public final class ValueNumberer {
    public static final int BAD = -1, STATE = -2, FULL = -3, NONE = -4;
    public static final long VOID = 1000000000000L, NOTHING = 2000000000000L;

    private static final int MOST_BLOCKS = 6, MOST_NAMES = 20, MOST_BYTES = 320;
    private static final int ARGUMENTS = 4, MOST_STEPS = 200, MOST_ROUNDS = 100;
    private static final int IMAGES = 2, SHEETS = 4, LANES = 3, MOST_CELLS = 40;
    private static final int MOST_TRIALS = 50, MOST_READS = 20, REFUSED = -10;

    private static final int NUM = 0, ARG = 1, ADD = 2, MUL = 3, NEG = 4, LESS = 5, DIV = 6, PHI = 7, GONE = 8;
    private static final int GOTO = 0, IF = 1, RET = 2;
    private static final int HIGHEST_NUMBER = 99, VOID_NUMBER = 99;

    private static final int NO_TOKEN = 1, MISPLACED = 2, OUT_OF_BOUNDS = 3, TOO_MANY = 5, UNSOUND = 6;
    private static final int NULL_FAULT = 1, INDEX_FAULT = 2, CAST_FAULT = 3, SIZE_FAULT = 4;

    private final Reader reader = new Reader();
    private final Machine latest = new Machine();
    private final Machine trial = new Machine();
    private final Classes alike = new Classes();
    private final Forms forms = new Forms();
    private final Sheets sheets = new Sheets();
    private final Program[] images = new Program[IMAGES];
    private final boolean[] kept = new boolean[IMAGES];
    private final int[] leaders = new int[MOST_NAMES];
    private final Program told = new Program();

    public ValueNumberer() {
        for (int k = 0; k < IMAGES; k++) images[k] = new Program();
    }

    // ---- the text, what there is

    public int feed(int c) {
        if (c < 0 || c > 127) return BAD;
        return reader.tape.push(c) ? reader.tape.length : FULL;
    }

    public int end(int n) {
        int had = reader.tape.length;
        if (n < 0 || n > had) return BAD;
        reader.tape.length = n;
        return had;
    }

    public int text() {
        boolean isTaken = reader.readText();
        reader.tape.length = 0;
        if (!isTaken) return REFUSED - reader.faultPlace;
        told.copyFrom(reader.draft);
        for (int k = 0; k < IMAGES; k++) kept[k] = false;
        latest.forget();
        return told.names;
    }

    public int fault() {
        return reader.fault;
    }

    public int rule(int what) {
        switch (what) {
            case 0: return told.blocks;
            case 1: return told.names;
            case 2: return told.countKind(GONE);
            case 3: return told.countKind(PHI);
            case 4: return told.countOperands();
            default: return BAD;
        }
    }

    public int block(int b, int what) {
        if (!told.hasBlock(b)) return BAD;
        switch (what) {
            case 0: return told.size[b] == 0 ? NONE : told.first[b];
            case 1: return told.size[b];
            case 2: return told.ending[b];
            case 3: return told.ending[b] == RET ? NONE : told.goal[b];
            case 4: return told.ending[b] == IF ? told.other[b] : NONE;
            case 5: return told.ending[b] == GOTO ? NONE : told.asked[b];
            case 6: return told.preds[b];
            case 7: return told.dominators[b];
            case 8: return told.nearestDominator(b);
            default: return BAD;
        }
    }

    public int pred(int b, int i) {
        if (!told.hasBlock(b) || i < 0 || i >= told.preds[b]) return BAD;
        return told.predRows[b][i];
    }

    public int name(int n, int what) {
        if (!told.hasName(n)) return BAD;
        switch (what) {
            case 0: return told.kind[n];
            case 1: return told.home[n];
            case 2: return told.arity[n];
            case 3: return told.hasFigure(n) ? told.figure[n] : NONE;
            case 4: return told.countUses(n);
            default: return BAD;
        }
    }

    public int operand(int n, int i) {
        return told.hasOperand(n, i) ? told.operandRows[n][i] : BAD;
    }

    public int seen(int n, int m) {
        if (!told.hasName(n) || !told.hasName(m)) return BAD;
        return told.isSeen(n, m) ? 1 : 0;
    }

    // ---- runs

    public long run(int a, int b, int c, int d) {
        latest.give(a, b, c, d);
        return latest.go(told);
    }

    public long value(int n) {
        if (!told.hasName(n)) return BAD;
        return latest.hasRun ? latest.values[n] : NOTHING;
    }

    public int went(int what) {
        if (what < 0 || what > 2) return BAD;
        if (!latest.hasRun) return NONE;
        if (what == 0) return latest.steps;
        if (what == 1) return latest.got;
        return latest.returned ? 1 : 0;
    }

    // ---- classes

    public int classes(int what) {
        if (what < 0 || what > 2) return BAD;
        alike.split(told, MOST_ROUNDS);
        if (what == 0) return alike.countClasses(told);
        return what == 1 ? alike.rounds : alike.greatestClass(told);
    }

    public int part(int n) {
        return partAt(n, MOST_ROUNDS);
    }

    public int partAt(int n, int r) {
        if (!told.hasName(n) || r < 0 || r > MOST_ROUNDS) return BAD;
        alike.split(told, r);
        return alike.first[n];
    }

    public int leader(int n) {
        if (!told.hasName(n)) return BAD;
        alike.split(told, MOST_ROUNDS);
        return alike.leaderOf(told, n);
    }

    public int form(int n) {
        if (!told.hasName(n)) return BAD;
        forms.find(told);
        return forms.nameOf(n);
    }

    public long number(int n) {
        if (!told.hasName(n)) return BAD;
        forms.find(told);
        return forms.numberOf(n);
    }

    // ---- what is changed

    public int replace() {
        alike.split(told, MOST_ROUNDS);
        for (int n = 0; n < told.names; n++) leaders[n] = alike.leaderOf(told, n);
        return told.exchange(leaders);
    }

    public int sweep() {
        return told.dropUnneeded();
    }

    public int set(int n, int i, int m) {
        if (!told.hasOperand(n, i) || !told.hasName(m)) return BAD;
        if (told.kind[m] == GONE || !told.isSeenByOperand(m, n, i)) return STATE;
        int was = told.operandRows[n][i];
        told.operandRows[n][i] = m;
        return was;
    }

    public int alter(int n, int v) {
        if (!told.hasName(n) || !told.hasFigure(n)) return BAD;
        if (v < 0 || v > highestFigure(told.kind[n])) return BAD;
        int was = told.figure[n];
        told.figure[n] = v;
        return was;
    }

    // ---- by a seed

    public int agree(int seed, int n, int k, int m, int what) {
        if (n < 1 || n > MOST_TRIALS || what < 0 || what > 1) return BAD;
        if (!told.hasName(k) || !told.hasName(m)) return BAD;
        int state = seed;
        int returns = 0;
        trial.watch(k, m);
        for (int r = 0; r < n; r++) {
            state = trial.giveBySeed(state);
            trial.go(told);
            if (trial.returned) returns++;
        }
        return what == 0 ? trial.differences : returns;
    }

    // ---- images, sheets

    public int keep(int k) {
        if (k < 0 || k >= IMAGES) return BAD;
        int was = kept[k] ? 1 : 0;
        images[k].copyFrom(told);
        kept[k] = true;
        return was;
    }

    public int back(int k) {
        if (k < 0 || k >= IMAGES) return BAD;
        if (!kept[k]) return STATE;
        told.copyFrom(images[k]);
        latest.forget();
        return told.names;
    }

    public int sheet(int k, int lane, int n) {
        if (k < 0 || k >= SHEETS || lane < 0 || lane >= LANES || n > MOST_CELLS) return BAD;
        if (n < 0) return REFUSED - SIZE_FAULT;
        sheets.renew(k, lane, n);
        return 1;
    }

    public int lay(int k, int i, int v) {
        if (k < 0 || k >= SHEETS) return BAD;
        int found = sheets.faultAt(k, i);
        if (found != 0) return REFUSED - found;
        sheets.write(k, i, v);
        return 1;
    }

    public int read(int k, int lane, int f, int n) {
        if (k < 0 || k >= SHEETS || lane < 0 || lane >= LANES || n < 0 || n > MOST_READS) return BAD;
        sheets.torn = 0;
        for (int r = 0; r < n; r++) {
            sheets.torn = sheets.faultOfFour(k, lane, f + ARGUMENTS * r);
            if (sheets.torn != 0) return r;
            giveCells(k, f + ARGUMENTS * r);
            latest.go(told);
        }
        return n;
    }

    public int torn() {
        return sheets.torn;
    }

    public int count(int what) {
        switch (what) {
            case 0: return countImages();
            case 1: return reader.tape.length;
            case 2: return sheets.length[0];
            case 3: return told.sumOfNumbers();
            default: return BAD;
        }
    }

    private int countImages() {
        int many = 0;
        for (int k = 0; k < IMAGES; k++) {
            if (kept[k]) many++;
        }
        return many;
    }

    private void giveCells(int k, int from) {
        for (int i = 0; i < ARGUMENTS; i++) latest.arguments[i] = sheets.cellAt(k, from + i);
    }

    private static int highestFigure(int kind) {
        return kind == ARG ? ARGUMENTS - 1 : HIGHEST_NUMBER;
    }

    private static boolean hasBit(int bits, int i) {
        return (bits >> i & 1) != 0;
    }

    /** What a name of a kind with operands brings of their values; neg has no second one. */
    private static long bring(int kind, long x, long y) {
        boolean isVoid = x == VOID || kind != NEG && y == VOID;
        if (isVoid) return kind == LESS ? 0 : VOID;
        switch (kind) {
            case ADD: return (int) (x + y);
            case MUL: return (int) (x * y);
            case NEG: return (int) -x;
            case LESS: return x < y ? 1 : 0;
            case DIV: return y == 0 ? VOID : (int) (x / y);
            default: return VOID;
        }
    }

    private static final class Tape {
        final byte[] bytes = new byte[MOST_BYTES];
        int length;

        boolean push(int c) {
            if (length >= MOST_BYTES) return false;
            bytes[length] = (byte) c;
            length++;
            return true;
        }

        boolean has(int place, int low, int high) {
            return place >= 0 && place < length && bytes[place] >= low && bytes[place] <= high;
        }
    }

    /** Blocks and names, with what follows from how the blocks lead to one another. */
    private static final class Program {
        int blocks;
        int names;
        final int[] first = new int[MOST_BLOCKS];
        final int[] size = new int[MOST_BLOCKS];
        final int[] ending = new int[MOST_BLOCKS];
        // Of these three only what the ending has means anything.
        final int[] goal = new int[MOST_BLOCKS];
        final int[] other = new int[MOST_BLOCKS];
        final int[] asked = new int[MOST_BLOCKS];
        final int[] preds = new int[MOST_BLOCKS];
        final int[][] predRows = new int[MOST_BLOCKS][MOST_BLOCKS];
        final int[] dominators = new int[MOST_BLOCKS];
        final int[] kind = new int[MOST_NAMES];
        final int[] home = new int[MOST_NAMES];
        final int[] arity = new int[MOST_NAMES];
        final int[] figure = new int[MOST_NAMES];
        final int[][] operandRows = new int[MOST_NAMES][MOST_BLOCKS];
        final boolean[] needed = new boolean[MOST_NAMES];

        void clear() {
            blocks = 0;
            names = 0;
        }

        boolean openBlock() {
            if (blocks >= MOST_BLOCKS) return false;
            first[blocks] = names;
            size[blocks] = 0;
            blocks++;
            return true;
        }

        boolean openName(int ofKind) {
            if (blocks < 1 || names >= MOST_NAMES) return false;
            kind[names] = ofKind;
            home[names] = blocks - 1;
            arity[names] = 0;
            size[blocks - 1]++;
            names++;
            return true;
        }

        void putFigure(int v) {
            if (names > 0) figure[names - 1] = v;
        }

        /** What is beyond the row is only counted: no block has so many preds. */
        void putOperand(int m) {
            if (names < 1) return;
            int n = names - 1;
            if (arity[n] >= 0 && arity[n] < MOST_BLOCKS) operandRows[n][arity[n]] = m;
            arity[n]++;
        }

        void putEnd(int how) {
            if (blocks > 0) ending[blocks - 1] = how;
        }

        void putAsked(int n) {
            if (blocks > 0) asked[blocks - 1] = n;
        }

        void putGoal(int b) {
            if (blocks > 0) goal[blocks - 1] = b;
        }

        void putOther(int b) {
            if (blocks > 0) other[blocks - 1] = b;
        }

        void copyFrom(Program from) {
            blocks = from.blocks;
            names = from.names;
            System.arraycopy(from.first, 0, first, 0, MOST_BLOCKS);
            System.arraycopy(from.size, 0, size, 0, MOST_BLOCKS);
            System.arraycopy(from.ending, 0, ending, 0, MOST_BLOCKS);
            System.arraycopy(from.goal, 0, goal, 0, MOST_BLOCKS);
            System.arraycopy(from.other, 0, other, 0, MOST_BLOCKS);
            System.arraycopy(from.asked, 0, asked, 0, MOST_BLOCKS);
            System.arraycopy(from.preds, 0, preds, 0, MOST_BLOCKS);
            System.arraycopy(from.dominators, 0, dominators, 0, MOST_BLOCKS);
            System.arraycopy(from.kind, 0, kind, 0, MOST_NAMES);
            System.arraycopy(from.home, 0, home, 0, MOST_NAMES);
            System.arraycopy(from.arity, 0, arity, 0, MOST_NAMES);
            System.arraycopy(from.figure, 0, figure, 0, MOST_NAMES);
            for (int b = 0; b < MOST_BLOCKS; b++) {
                System.arraycopy(from.predRows[b], 0, predRows[b], 0, MOST_BLOCKS);
            }
            for (int n = 0; n < MOST_NAMES; n++) {
                System.arraycopy(from.operandRows[n], 0, operandRows[n], 0, MOST_BLOCKS);
            }
        }

        boolean hasBlock(int b) {
            return b >= 0 && b < blocks;
        }

        boolean hasName(int n) {
            return n >= 0 && n < names;
        }

        boolean hasOperand(int n, int i) {
            return hasName(n) && i >= 0 && i < arity[n] && i < MOST_BLOCKS;
        }

        boolean hasFigure(int n) {
            return kind[n] == NUM || kind[n] == ARG;
        }

        int successors(int b) {
            if (ending[b] == RET) return 0;
            return ending[b] == GOTO ? 1 << goal[b] : 1 << goal[b] | 1 << other[b];
        }

        /** The blocks to which a way leads from block 0 that keeps out of the banned ones, as bits. */
        int reachOutside(int banned) {
            if (blocks == 0 || hasBit(banned, 0)) return 0;
            int reached = 1;
            for (int round = 0; round < blocks; round++) {
                for (int b = 0; b < blocks; b++) {
                    if (hasBit(reached, b)) reached |= successors(b) & ~banned;
                }
            }
            return reached;
        }

        void findDominators() {
            for (int b = 0; b < blocks; b++) dominators[b] = 0;
            for (int d = 0; d < blocks; d++) {
                int reached = reachOutside(1 << d);
                for (int b = 0; b < blocks; b++) {
                    if (!hasBit(reached, b)) dominators[b] |= 1 << d;
                }
            }
        }

        void findPreds() {
            for (int b = 0; b < blocks; b++) {
                preds[b] = 0;
                for (int from = 0; from < blocks; from++) {
                    if (hasBit(successors(from), b)) {
                        predRows[b][preds[b]] = from;
                        preds[b]++;
                    }
                }
            }
        }

        /** Dominators of a block stand in a chain, so the nearest has the most of its own. */
        int nearestDominator(int b) {
            int nearest = NONE;
            int most = 0;
            for (int d = 0; d < blocks; d++) {
                if (d == b || !hasBit(dominators[b], d)) continue;
                int own = Integer.bitCount(dominators[d]);
                if (own > most) {
                    most = own;
                    nearest = d;
                }
            }
            return nearest;
        }

        int routeFrom(int from, int to) {
            for (int i = 0; i < preds[to]; i++) {
                if (predRows[to][i] == from) return i;
            }
            return NONE;
        }

        boolean isSeen(int n, int m) {
            return home[n] == home[m] ? n < m : hasBit(dominators[home[m]], home[n]);
        }

        boolean isSeenAtEnd(int n, int b) {
            return hasBit(dominators[b], home[n]);
        }

        boolean isSeenByOperand(int m, int n, int i) {
            if (kind[n] != PHI) return isSeen(m, n);
            int b = home[n];
            return i < preds[b] && isSeenAtEnd(m, predRows[b][i]);
        }

        /** The last check of a text; it also finds preds and dominators. */
        boolean isSound() {
            int all = (1 << blocks) - 1;
            for (int b = 0; b < blocks; b++) {
                if ((successors(b) & ~all) != 0) return false;
            }
            if (reachOutside(0) != all) return false;
            findPreds();
            findDominators();
            for (int n = 0; n < names; n++) {
                if (!areOperandsSound(n)) return false;
            }
            for (int b = 0; b < blocks; b++) {
                if (ending[b] == GOTO) continue;
                if (!hasName(asked[b]) || !isSeenAtEnd(asked[b], b)) return false;
            }
            return true;
        }

        boolean areOperandsSound(int n) {
            if (kind[n] == PHI && arity[n] != preds[home[n]]) return false;
            for (int i = 0; i < arity[n]; i++) {
                int m = operandRows[n][i];
                if (!hasName(m) || !isSeenByOperand(m, n, i)) return false;
            }
            return true;
        }

        /** Whether an operand is the name itself or behind it. */
        boolean looksBehind(int n) {
            for (int i = 0; i < arity[n]; i++) {
                if (operandRows[n][i] >= n) return true;
            }
            return false;
        }

        int countKind(int which) {
            int many = 0;
            for (int n = 0; n < names; n++) {
                if (kind[n] == which) many++;
            }
            return many;
        }

        int countOperands() {
            int many = 0;
            for (int n = 0; n < names; n++) many += arity[n];
            for (int b = 0; b < blocks; b++) {
                if (ending[b] != GOTO) many++;
            }
            return many;
        }

        int countUses(int used) {
            int many = 0;
            for (int n = 0; n < names; n++) {
                for (int i = 0; i < arity[n]; i++) {
                    if (operandRows[n][i] == used) many++;
                }
            }
            for (int b = 0; b < blocks; b++) {
                if (ending[b] != GOTO && asked[b] == used) many++;
            }
            return many;
        }

        int sumOfNumbers() {
            int sum = 0;
            for (int n = 0; n < names; n++) {
                if (kind[n] == NUM) sum += figure[n];
            }
            return sum;
        }

        /** Puts another name for each one that is used; says how many uses are others then. */
        int exchange(int[] others) {
            int many = 0;
            for (int n = 0; n < names; n++) {
                for (int i = 0; i < arity[n]; i++) {
                    int was = operandRows[n][i];
                    operandRows[n][i] = others[was];
                    if (others[was] != was) many++;
                }
            }
            for (int b = 0; b < blocks; b++) {
                if (ending[b] == GOTO) continue;
                int was = asked[b];
                asked[b] = others[was];
                if (others[was] != was) many++;
            }
            return many;
        }

        int dropUnneeded() {
            findNeeded();
            int many = 0;
            for (int n = 0; n < names; n++) {
                if (needed[n] || kind[n] == GONE) continue;
                kind[n] = GONE;
                arity[n] = 0;
                many++;
            }
            return many;
        }

        void findNeeded() {
            for (int n = 0; n < names; n++) needed[n] = false;
            for (int b = 0; b < blocks; b++) {
                if (ending[b] != GOTO) needed[asked[b]] = true;
            }
            // A round that marks nothing new is the last of use, and each other marks one name at least.
            for (int round = 0; round < names; round++) {
                for (int n = 0; n < names; n++) {
                    if (needed[n]) markOperands(n);
                }
            }
        }

        void markOperands(int n) {
            for (int i = 0; i < arity[n]; i++) needed[operandRows[n][i]] = true;
        }
    }

    /** Takes a text line by line; a method that answers false has told the fault. */
    private static final class Reader {
        // The words of names are told by their kinds, those of ends by their ends and this.
        private static final int END_WORDS = 10, BLOCK_WORD = 20, STRANGE_WORD = 21;
        private static final int FIGURES = 22, SEMICOLON = 23, NO_MORE = 24, BROKEN = 25;

        final Tape tape = new Tape();
        // Apart from what is told, since that stays if there is a fault.
        final Program draft = new Program();
        int fault;
        int faultPlace;
        // No token is shorter than a byte; one more tells where the text stops.
        private final int[] tokens = new int[MOST_BYTES + 1];
        private final int[] starts = new int[MOST_BYTES + 1];
        private final int[] figures = new int[MOST_BYTES + 1];
        private int at;
        private int place;
        private int taken;
        private boolean isInBlock;
        private boolean isPhiOver;

        boolean readText() {
            scan();
            draft.clear();
            fault = 0;
            at = 0;
            isInBlock = false;
            boolean isFine = true;
            for (int i = 0; i <= MOST_BYTES && isFine && (isInBlock || tokens[at] != NO_MORE); i++) {
                isFine = readLine();
            }
            return isFine && (draft.isSound() || refuse(UNSOUND));
        }

        /** The scan goes ahead of the reading, so a token that is none is told when it is come to. */
        private boolean refuse(int why) {
            fault = tokens[at] == BROKEN ? NO_TOKEN : why;
            faultPlace = starts[at];
            return false;
        }

        private boolean readLine() {
            if (!isInBlock) return readHead();
            return tokens[at] <= PHI ? readName() : readEnd();
        }

        private boolean readHead() {
            if (tokens[at] != BLOCK_WORD) return refuse(MISPLACED);
            if (!draft.openBlock()) return refuse(TOO_MANY);
            at++;
            isInBlock = true;
            isPhiOver = false;
            return takeSemicolon();
        }

        private boolean readName() {
            int kind = tokens[at];
            if (kind == PHI && isPhiOver) return refuse(MISPLACED);
            if (!draft.openName(kind)) return refuse(TOO_MANY);
            at++;
            isPhiOver = kind != PHI;
            boolean isFine = kind == NUM || kind == ARG ? readFigure(kind) : readOperands(kind);
            return isFine && takeSemicolon();
        }

        private boolean readFigure(int kind) {
            if (!takeNumber(0, highestFigure(kind))) return false;
            draft.putFigure(taken);
            return true;
        }

        private boolean readOperands(int kind) {
            int least = kind == PHI || kind == NEG ? 1 : 2;
            int most = kind == PHI ? MOST_BYTES : least;
            for (int i = 0; i < most && (i < least || tokens[at] == FIGURES); i++) {
                if (!takeNumber(0, MOST_NAMES - 1)) return false;
                draft.putOperand(taken);
            }
            return true;
        }

        private boolean readEnd() {
            int how = tokens[at] - END_WORDS;
            if (how != GOTO && how != IF && how != RET) return refuse(MISPLACED);
            at++;
            draft.putEnd(how);
            if (how != GOTO) {
                if (!takeNumber(0, MOST_NAMES - 1)) return false;
                draft.putAsked(taken);
            }
            if (how != RET) {
                if (!takeNumber(1, MOST_BLOCKS - 1)) return false;
                draft.putGoal(taken);
            }
            if (how == IF) {
                if (!takeNumber(1, MOST_BLOCKS - 1)) return false;
                draft.putOther(taken);
            }
            isInBlock = false;
            return takeSemicolon();
        }

        private boolean takeSemicolon() {
            if (tokens[at] != SEMICOLON) return refuse(MISPLACED);
            at++;
            return true;
        }

        private boolean takeNumber(int low, int high) {
            if (tokens[at] != FIGURES) return refuse(MISPLACED);
            if (figures[at] < low || figures[at] > high) return refuse(OUT_OF_BOUNDS);
            taken = figures[at];
            at++;
            return true;
        }

        private void scan() {
            place = 0;
            int last = SEMICOLON;
            for (int i = 0; i <= MOST_BYTES && last != NO_MORE && last != BROKEN; i++) {
                skip(' ', ' ');
                starts[i] = place;
                figures[i] = 0;
                last = scanToken(place);
                tokens[i] = last;
                if (last == FIGURES) figures[i] = figureFrom(starts[i]);
            }
        }

        private int scanToken(int start) {
            if (start >= tape.length) return NO_MORE;
            if (tape.has(start, 'a', 'z')) {
                skip('a', 'z');
                return wordFrom(start);
            }
            if (tape.has(start, '0', '9')) {
                skip('0', '9');
                return place - start > 2 ? BROKEN : FIGURES;
            }
            if (!tape.has(start, ';', ';')) return BROKEN;
            place++;
            return SEMICOLON;
        }

        private void skip(int low, int high) {
            for (int i = 0; i < MOST_BYTES && tape.has(place, low, high); i++) place++;
        }

        private int figureFrom(int start) {
            int sum = 0;
            for (int i = start; i < place && i < MOST_BYTES; i++) sum = sum * 10 + tape.bytes[i] - '0';
            return sum;
        }

        private int wordFrom(int start) {
            if (isWord(start, "num")) return NUM;
            if (isWord(start, "arg")) return ARG;
            if (isWord(start, "add")) return ADD;
            if (isWord(start, "mul")) return MUL;
            if (isWord(start, "neg")) return NEG;
            if (isWord(start, "less")) return LESS;
            if (isWord(start, "div")) return DIV;
            if (isWord(start, "phi")) return PHI;
            if (isWord(start, "goto")) return END_WORDS + GOTO;
            if (isWord(start, "if")) return END_WORDS + IF;
            if (isWord(start, "ret")) return END_WORDS + RET;
            return isWord(start, "block") ? BLOCK_WORD : STRANGE_WORD;
        }

        private boolean isWord(int start, String word) {
            if (place - start != word.length()) return false;
            for (int i = 0; i < word.length(); i++) {
                if (!tape.has(start + i, word.charAt(i), word.charAt(i))) return false;
            }
            return true;
        }
    }

    /** Runs a program and keeps what the run brought. */
    private static final class Machine {
        final int[] arguments = new int[ARGUMENTS];
        final long[] values = new long[MOST_NAMES];
        boolean hasRun;
        boolean returned;
        int steps;
        int got;
        int differences;
        private final long[] coming = new long[MOST_NAMES];
        private int watched = NONE;
        private int compared = NONE;

        void forget() {
            hasRun = false;
        }

        void give(int a, int b, int c, int d) {
            arguments[0] = a;
            arguments[1] = b;
            arguments[2] = c;
            arguments[3] = d;
        }

        int giveBySeed(int seed) {
            int state = seed;
            for (int i = 0; i < ARGUMENTS; i++) {
                state = state * 1103515245 + 12345;
                arguments[i] = (state >>> 16 & 0x7fff) % 9 - 4;
            }
            return state;
        }

        /** From now on it counts how often the one has another value than the one watched gets. */
        void watch(int one, int gets) {
            compared = one;
            watched = gets;
            differences = 0;
        }

        long go(Program p) {
            for (int n = 0; n < MOST_NAMES; n++) values[n] = NOTHING;
            hasRun = true;
            returned = false;
            got = 0;
            steps = 0;
            int from = NONE;
            int at = 0;
            for (int i = 0; i < MOST_STEPS && p.hasBlock(at); i++) {
                pass(p, from, at);
                steps++;
                if (p.ending[at] == RET) {
                    returned = true;
                    return values[p.asked[at]];
                }
                from = at;
                at = nextBlock(p, at);
            }
            return NOTHING;
        }

        private int nextBlock(Program p, int at) {
            if (p.ending[at] == GOTO) return p.goal[at];
            long chosen = values[p.asked[at]];
            return chosen > 0 && chosen != VOID ? p.goal[at] : p.other[at];
        }

        private void pass(Program p, int from, int at) {
            int last = p.first[at] + p.size[at];
            passPhis(p, p.routeFrom(from, at), p.first[at], last);
            for (int n = p.first[at]; n < last; n++) {
                if (p.kind[n] == PHI || p.kind[n] == GONE) continue;
                values[n] = bringOf(p, n);
                got++;
                if (n == watched) compare();
            }
        }

        private void passPhis(Program p, int route, int first, int last) {
            if (route < 0) return;
            boolean isWatched = false;
            for (int n = first; n < last; n++) {
                if (p.kind[n] == PHI) coming[n] = values[p.operandRows[n][route]];
            }
            for (int n = first; n < last; n++) {
                if (p.kind[n] != PHI) continue;
                values[n] = coming[n];
                got++;
                if (n == watched) isWatched = true;
            }
            if (isWatched) compare();
        }

        private long bringOf(Program p, int n) {
            if (p.kind[n] == NUM) return p.figure[n] == VOID_NUMBER ? VOID : p.figure[n];
            if (p.kind[n] == ARG) return arguments[p.figure[n]];
            long x = values[p.operandRows[n][0]];
            return p.kind[n] == NEG ? bring(NEG, x, 0) : bring(p.kind[n], x, values[p.operandRows[n][1]]);
        }

        private void compare() {
            if (values[compared] != NOTHING && values[compared] != values[watched]) differences++;
        }
    }

    /** Names that are alike, each told by the first of those that it is alike to. */
    private static final class Classes {
        final int[] first = new int[MOST_NAMES];
        int rounds;
        private final int[] next = new int[MOST_NAMES];

        void split(Program p, int most) {
            for (int n = 0; n < p.names; n++) first[n] = firstAtStart(p, n);
            rounds = 0;
            for (int r = 0; r < most && splitOnce(p); r++) rounds++;
        }

        private int firstAtStart(Program p, int n) {
            for (int m = 0; m < n; m++) {
                if (isHopeful(p, m, n)) return m;
            }
            return n;
        }

        private boolean isHopeful(Program p, int m, int n) {
            if (p.kind[m] != p.kind[n] || p.kind[n] == GONE) return false;
            if (p.kind[n] == PHI) return p.home[m] == p.home[n];
            return !p.hasFigure(n) || p.figure[m] == p.figure[n];
        }

        private boolean splitOnce(Program p) {
            boolean isOther = false;
            for (int n = 0; n < p.names; n++) {
                next[n] = n;
                for (int m = 0; m < n && next[n] == n; m++) {
                    if (first[m] == first[n] && areOperandsAlike(p, m, n)) next[n] = m;
                }
                if (next[n] != first[n]) isOther = true;
            }
            System.arraycopy(next, 0, first, 0, MOST_NAMES);
            return isOther;
        }

        private boolean areOperandsAlike(Program p, int m, int n) {
            boolean areAlike = p.arity[m] == p.arity[n];
            for (int i = 0; i < p.arity[n] && areAlike; i++) areAlike = isAlike(p, m, i, n, i);
            if (areAlike) return true;
            boolean mayCross = p.kind[n] == ADD || p.kind[n] == MUL;
            return mayCross && isAlike(p, m, 0, n, 1) && isAlike(p, m, 1, n, 0);
        }

        private boolean isAlike(Program p, int m, int i, int n, int j) {
            return first[p.operandRows[m][i]] == first[p.operandRows[n][j]];
        }

        int countClasses(Program p) {
            int many = 0;
            for (int n = 0; n < p.names; n++) {
                if (first[n] == n && p.kind[n] != GONE) many++;
            }
            return many;
        }

        int greatestClass(Program p) {
            int greatest = 0;
            for (int n = 0; n < p.names; n++) {
                if (p.kind[n] != GONE) greatest = Math.max(greatest, sizeOf(p, n));
            }
            return greatest;
        }

        private int sizeOf(Program p, int part) {
            int many = 0;
            for (int n = 0; n < p.names; n++) {
                if (first[n] == part) many++;
            }
            return many;
        }

        /** Those that are seen at one place stand in a chain, so the first is seen at all others. */
        int leaderOf(Program p, int n) {
            int best = n;
            for (int m = 0; m < p.names; m++) {
                if (first[m] == first[n] && p.isSeen(m, n) && p.isSeen(m, best)) best = m;
            }
            return best;
        }
    }

    /** The forms of names: below the mark a number, from it on a name. */
    private static final class Forms {
        private static final long NAMES_FROM = 3000000000000L;

        private final long[] codes = new long[MOST_NAMES];

        void find(Program p) {
            for (int n = 0; n < p.names; n++) codes[n] = NAMES_FROM + n;
            for (int n = 0; n < p.names; n++) codes[n] = codeOf(p, n);
        }

        int nameOf(int n) {
            return isName(codes[n]) ? (int) (codes[n] - NAMES_FROM) : NONE;
        }

        long numberOf(int n) {
            return isName(codes[n]) ? NOTHING : codes[n];
        }

        private static boolean isName(long code) {
            return code >= NAMES_FROM;
        }

        private long codeOf(Program p, int n) {
            switch (p.kind[n]) {
                case NUM: return p.figure[n] == VOID_NUMBER ? VOID : p.figure[n];
                case ARG: return earlier(p, n);
                case NEG: return codeOfNeg(p, n);
                case PHI: return codeOfPhi(p, n);
                case GONE: return codes[n];
                default: return codeOfPair(p, n);
            }
        }

        private long codeOfNeg(Program p, int n) {
            int x = p.operandRows[n][0];
            if (!isName(codes[x])) return bring(NEG, codes[x], 0);
            int inner = nameOf(x);
            return p.kind[inner] == NEG ? codes[p.operandRows[inner][0]] : earlier(p, n);
        }

        private long codeOfPair(Program p, int n) {
            int kind = p.kind[n];
            long x = codes[p.operandRows[n][0]];
            long y = codes[p.operandRows[n][1]];
            boolean areNumbers = !isName(x) && !isName(y);
            if (areNumbers || x == VOID || y == VOID) return bring(kind, x, y);
            if (kind == ADD && x == 0 || kind == MUL && x == 1) return y;
            if (kind == ADD && y == 0 || kind == MUL && y == 1 || kind == DIV && y == 1) return x;
            return earlier(p, n);
        }

        private long codeOfPhi(Program p, int n) {
            if (p.looksBehind(n)) return codes[n];
            long one = codes[p.operandRows[n][0]];
            for (int i = 1; i < p.arity[n]; i++) {
                if (codes[p.operandRows[n][i]] != one) return earlier(p, n);
            }
            return one;
        }

        private long earlier(Program p, int n) {
            for (int m = 0; m < n; m++) {
                if (p.kind[m] == p.kind[n] && nameOf(m) == m && isSame(p, m, n)) return codes[m];
            }
            return codes[n];
        }

        private boolean isSame(Program p, int m, int n) {
            if (p.kind[n] == ARG) return p.figure[m] == p.figure[n];
            if (p.kind[n] == PHI && (p.home[m] != p.home[n] || p.looksBehind(m))) return false;
            boolean areSame = true;
            for (int i = 0; i < p.arity[n] && areSame; i++) areSame = isSameOperand(p, m, i, n, i);
            if (areSame) return true;
            boolean mayCross = p.kind[n] == ADD || p.kind[n] == MUL;
            return mayCross && isSameOperand(p, m, 0, n, 1) && isSameOperand(p, m, 1, n, 0);
        }

        private boolean isSameOperand(Program p, int m, int i, int n, int j) {
            return codes[p.operandRows[m][i]] == codes[p.operandRows[n][j]];
        }
    }

    /** Rows of cells; the length NONE tells that there is nothing. */
    private static final class Sheets {
        final int[] length = new int[SHEETS];
        int torn;
        private final int[] lanes = new int[SHEETS];
        // Every row is as long as may be, so that a new sheet needs no new row.
        private final int[][] cells = new int[SHEETS][MOST_CELLS];

        Sheets() {
            for (int k = 0; k < SHEETS; k++) length[k] = NONE;
        }

        void renew(int k, int lane, int n) {
            for (int i = 0; i < MOST_CELLS; i++) cells[k][i] = 0;
            lanes[k] = lane;
            length[k] = n;
        }

        int faultAt(int k, int i) {
            if (length[k] < 0) return NULL_FAULT;
            return i < 0 || i >= length[k] ? INDEX_FAULT : 0;
        }

        int faultOfFour(int k, int lane, int from) {
            if (length[k] >= 0 && lanes[k] != lane) return CAST_FAULT;
            int found = faultAt(k, from);
            return found != 0 ? found : faultAt(k, from + ARGUMENTS - 1);
        }

        void write(int k, int i, int v) {
            switch (lanes[k]) {
                case 0: cells[k][i] = (byte) v; break;
                case 1: cells[k][i] = (short) v; break;
                default: cells[k][i] = v;
            }
        }

        int cellAt(int k, int i) {
            return faultAt(k, i) == 0 ? cells[k][i] : 0;
        }
    }
}
