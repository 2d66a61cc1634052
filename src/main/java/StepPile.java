import java.util.Arrays;

/**
 * Rows of symbols on a pile, made by steps: hypotheses that are put on it, assertions that take
 * rows off for their hypotheses and put on what these make of them, variables that must stay
 * apart, rows that are saved and come again.
 */
public final class StepPile {
    /** There is none, or nothing is done. */
    public static final int NONE = -1;

    private static final int MOST_SYMBOLS = 1000;
    private static final int MOST_STATEMENTS = 300;
    private static final int MOST_IN_STATEMENT = 300;
    private static final int MOST_NEEDS = 60;
    private static final int MOST_PAIRS = 200;
    private static final int MOST_ON_PILE = 200;
    private static final int MOST_SAVED = 300;
    private static final int MOST_IN_ROW = 1000;
    private static final int MOST_IN_ALL = 40000;

    private static final int VARIABLE = 0;
    private static final int CONSTANT = 1;

    private static final int FLOATING = 0;
    private static final int ESSENTIAL = 1;
    private static final int ASSERTION = 2;

    private static final int FINE = 0;
    private static final int TOO_MUCH = 5;
    private static final int TOO_FEW = 15;
    private static final int NO_FIT = 16;
    private static final int NOT_APART = 17;

    private final Symbols symbols;
    private final Statements statements;
    private final Rows pile;
    private final Rows saved;
    private final Becoming becoming;
    private final int[] made;

    public StepPile() {
        symbols = new Symbols();
        statements = new Statements(symbols);
        pile = new Rows(MOST_ON_PILE);
        saved = new Rows(MOST_SAVED);
        becoming = new Becoming(symbols, pile);
        made = new int[MOST_IN_ROW];
    }

    public int symbol(int what) {
        return symbols.add(what);
    }

    public int begin(int kind) {
        return statements.start(kind);
    }

    public int put(int symbol) {
        return statements.addSymbol(symbol);
    }

    public int need(int hypothesis) {
        return statements.addNeed(hypothesis);
    }

    public int pair(int s, int t) {
        return statements.addPair(s, t);
    }

    public int close() {
        return statements.finish() ? 1 : 0;
    }

    public int apart(int s, int t) {
        return symbols.part(s, t) ? 1 : 0;
    }

    public int step(int i) {
        if (!statements.isClosed(i)) {
            return NONE;
        }
        boolean assertion = statements.kindOf(i) == ASSERTION;
        return settle(assertion ? useAssertion(i) : putCopy(statements.texts, i));
    }

    public int save() {
        int top = pile.rows() - 1;
        if (top < 0 || saved.isFull()) {
            return NONE;
        }
        if (symbolsInAll() + pile.size(top) > MOST_IN_ALL) {
            return settle(TOO_MUCH);
        }
        saved.addCopy(pile, top);
        return saved.rows() - 1;
    }

    public int again(int k) {
        return saved.has(k) ? settle(putCopy(saved, k)) : NONE;
    }

    public int clear() {
        int had = pile.rows();
        dropAll();
        return had;
    }

    public int count(int what) {
        switch (what) {
            case 0:
                return symbols.known();
            case 1:
                return statements.texts.rows();
            case 2:
                return pile.rows();
            case 3:
                return saved.rows();
            case 4:
                return symbolsInAll();
            default:
                return NONE;
        }
    }

    public int length(int row) {
        return pile.size(row);
    }

    public int at(int row, int k) {
        return pile.get(row, k);
    }

    public int told(int i, int what) {
        if (!statements.texts.has(i)) {
            return NONE;
        }
        switch (what) {
            case 0:
                return statements.texts.size(i);
            case 1:
                return statements.needs.size(i);
            case 2:
                return statements.pairs.size(i) / 2;
            case 3:
                return statements.isClosed(i) ? 1 : 0;
            case 4:
                return statements.kindOf(i);
            default:
                return NONE;
        }
    }

    public int is(int row, int i) {
        if (!pile.has(row) || !statements.texts.has(i)) {
            return NONE;
        }
        int size = pile.size(row);
        boolean same = size == statements.texts.size(i)
                && pile.isSame(row, 0, statements.texts, i, 0, size);
        return same ? 1 : 0;
    }

    public int check() {
        int rows = pile.rows();
        for (int row = 0; row < rows; row++) {
            if (!symbols.isConstant(pile.get(row, 0))) {
                return 0;
            }
        }
        return pile.isGapless() ? 1 : 0;
    }

    private int symbolsInAll() {
        return pile.total() + saved.total();
    }

    private void dropAll() {
        pile.dropTo(0);
        saved.dropTo(0);
    }

    /** Every fault leaves pile and saved rows empty, so all answers that may be faults come by here. */
    private int settle(int fault) {
        if (fault != FINE) {
            dropAll();
        }
        return fault;
    }

    /** Whether a new row of that size may lie on the undermost rows of the pile, without those above. */
    private boolean hasRoom(int under, int size) {
        return size <= MOST_IN_ROW
                && under < MOST_ON_PILE
                && pile.startOf(under) + size + saved.total() <= MOST_IN_ALL;
    }

    private int putCopy(Rows from, int row) {
        if (!hasRoom(pile.rows(), from.size(row))) {
            return TOO_MUCH;
        }
        pile.addCopy(from, row);
        return FINE;
    }

    private int useAssertion(int i) {
        int first = pile.rows() - statements.needs.size(i);
        if (first < 0) {
            return TOO_FEW;
        }
        if (!allFit(i, first)) {
            return NO_FIT;
        }
        if (!allApart(i, first)) {
            return NOT_APART;
        }
        int size = becoming.write(statements.texts, i, made);
        if (!hasRoom(first, size)) {
            return TOO_MUCH;
        }
        pile.dropTo(first);
        pile.addFrom(made, size);
        return FINE;
    }

    /** Also learns what the variables become: the essential hypotheses rely on the floating ones before them. */
    private boolean allFit(int i, int first) {
        int size = statements.needs.size(i);
        for (int k = 0; k < size; k++) {
            int hypothesis = statements.needs.get(i, k);
            int row = first + k;
            boolean fits = statements.kindOf(hypothesis) == FLOATING
                    ? becoming.learn(statements.texts, hypothesis, row)
                    : becoming.makes(statements.texts, hypothesis, row);
            if (!fits) {
                return false;
            }
        }
        return true;
    }

    private boolean allApart(int i, int first) {
        int size = statements.pairs.size(i);
        if (size > 0) {
            becoming.listVariables(first);
        }
        for (int k = 0; k + 1 < size; k += 2) {
            if (!becoming.areApart(statements.pairs.get(i, k), statements.pairs.get(i, k + 1))) {
                return false;
            }
        }
        return true;
    }

    /**
     * Rows of numbers, one behind the other in one array that is used again, so that steps make no
     * objects. Only the last row grows.
     */
    private static final class Rows {
        private static final int FIRST_CELLS = 64;

        private int[] cells = new int[FIRST_CELLS];
        /** Where each row begins; one more, where the last one ends. */
        private final int[] starts;
        private int rows = 0;

        Rows(int most) {
            starts = new int[Math.max(most, 0) + 1];
        }

        int rows() {
            return rows;
        }

        boolean isFull() {
            return rows >= starts.length - 1;
        }

        boolean has(int row) {
            return row >= 0 && row < rows;
        }

        int size(int row) {
            return has(row) ? starts[row + 1] - starts[row] : NONE;
        }

        int total() {
            return starts[rows];
        }

        /** Where a row begins, or would begin as the next one. */
        int startOf(int row) {
            return has(row) ? starts[row] : starts[rows];
        }

        int get(int row, int k) {
            boolean there = has(row) && k >= 0 && k < starts[row + 1] - starts[row];
            return there ? cells[starts[row] + k] : NONE;
        }

        /** Whether that many numbers from k on are there in a row. */
        private boolean hasPart(int row, int k, int size) {
            return has(row) && k >= 0 && size >= 0 && k <= starts[row + 1] - starts[row] - size;
        }

        boolean isSame(int row, int k, Rows other, int otherRow, int otherK, int size) {
            if (!hasPart(row, k, size) || !other.hasPart(otherRow, otherK, size)) {
                return false;
            }
            int here = starts[row] + k;
            int there = other.starts[otherRow] + otherK;
            for (int j = 0; j < size; j++) {
                if (cells[here + j] != other.cells[there + j]) {
                    return false;
                }
            }
            return true;
        }

        /** Copies a row's numbers from k on; nothing where they are not all there or have no place. */
        void copyPart(int row, int k, int size, int[] to, int place) {
            if (hasPart(row, k, size) && place >= 0 && place <= to.length - size) {
                System.arraycopy(cells, starts[row] + k, to, place, size);
            }
        }

        void addEmpty() {
            if (!isFull()) {
                starts[rows + 1] = starts[rows];
                rows++;
            }
        }

        void append(int number) {
            if (rows > 0) {
                makeRoom(1);
                cells[starts[rows]] = number;
                starts[rows]++;
            }
        }

        void addFrom(int[] from, int size) {
            addPart(from, 0, size);
        }

        void addCopy(Rows from, int row) {
            if (from.has(row)) {
                addPart(from.cells, from.starts[row], from.size(row));
            }
        }

        private void addPart(int[] from, int start, int size) {
            if (isFull() || start < 0 || size < 0 || start > from.length - size) {
                return;
            }
            makeRoom(size);
            System.arraycopy(from, start, cells, starts[rows], size);
            starts[rows + 1] = starts[rows] + size;
            rows++;
        }

        /** Doubles, because a run seldom comes near the limits, and a new array for each row would cost more. */
        private void makeRoom(int more) {
            int wanted = starts[rows] + more;
            if (wanted > cells.length) {
                cells = Arrays.copyOf(cells, Math.max(wanted, 2 * cells.length));
            }
        }

        void dropTo(int left) {
            if (left >= 0 && left < rows) {
                rows = left;
            }
        }

        /** Whether no row is empty and each one begins where the one before it ends. */
        boolean isGapless() {
            for (int row = 0; row < rows; row++) {
                if (starts[row + 1] <= starts[row]) {
                    return false;
                }
            }
            return starts[0] == 0 && starts[rows] <= cells.length;
        }
    }

    /** The symbols, and which variables are apart. */
    private static final class Symbols {
        private static final int WORD = 64;
        private static final int PARTED_WORDS = MOST_SYMBOLS * (MOST_SYMBOLS - 1) / 2 / WORD + 1;

        private final boolean[] variables = new boolean[MOST_SYMBOLS];
        /** A bit for each two symbols: a whole square of them would fill the room of a run. */
        private final long[] parted = new long[PARTED_WORDS];
        private int known = 0;

        int known() {
            return known;
        }

        int add(int what) {
            if ((what != VARIABLE && what != CONSTANT) || known >= MOST_SYMBOLS) {
                return NONE;
            }
            variables[known] = what == VARIABLE;
            known++;
            return known - 1;
        }

        boolean has(int s) {
            return s >= 0 && s < known;
        }

        boolean isVariable(int s) {
            return s >= 0 && s < known && variables[s];
        }

        boolean isConstant(int s) {
            return s >= 0 && s < known && !variables[s];
        }

        private boolean areTwoVariables(int s, int t) {
            return s != t && isVariable(s) && isVariable(t);
        }

        /** Whether this has parted them: false when they are no two variables, or were apart. */
        boolean part(int s, int t) {
            if (!areTwoVariables(s, t) || areParted(s, t)) {
                return false;
            }
            int bit = bitOf(s, t);
            parted[bit / WORD] |= 1L << (bit % WORD);
            return true;
        }

        boolean areParted(int s, int t) {
            if (!areTwoVariables(s, t)) {
                return false;
            }
            int bit = bitOf(s, t);
            return (parted[bit / WORD] >>> (bit % WORD) & 1L) != 0L;
        }

        /** The same for both orders; only for two different symbols. */
        private static int bitOf(int s, int t) {
            int low = Math.min(s, t);
            int high = Math.max(s, t);
            return high * (high - 1) / 2 + low;
        }
    }

    /** The statements; the open one is always the last one. */
    private static final class Statements {
        final Rows texts = new Rows(MOST_STATEMENTS);
        final Rows needs = new Rows(MOST_STATEMENTS);
        /** Two numbers for each pair. */
        final Rows pairs = new Rows(MOST_STATEMENTS);
        private final Symbols symbols;
        private final int[] kinds = new int[MOST_STATEMENTS];
        /** For each variable the last assertion that has a floating hypothesis of it: spares a search. */
        private final int[] floatsIn = new int[MOST_SYMBOLS];
        private int open = NONE;

        Statements(Symbols symbols) {
            this.symbols = symbols;
            Arrays.fill(floatsIn, NONE);
        }

        int kindOf(int i) {
            return texts.has(i) ? kinds[i] : NONE;
        }

        boolean isClosed(int i) {
            return texts.has(i) && i != open;
        }

        private boolean isAssertionOpen() {
            return kindOf(open) == ASSERTION;
        }

        private boolean isClosedHypothesis(int i) {
            return isClosed(i) && kindOf(i) != ASSERTION;
        }

        int start(int kind) {
            boolean known = kind == FLOATING || kind == ESSENTIAL || kind == ASSERTION;
            if (open != NONE || !known || texts.isFull()) {
                return NONE;
            }
            open = texts.rows();
            kinds[open] = kind;
            texts.addEmpty();
            needs.addEmpty();
            pairs.addEmpty();
            return open;
        }

        int addSymbol(int symbol) {
            if (open == NONE || !symbols.has(symbol) || !mayStandNext(symbol)
                    || texts.size(open) >= MOST_IN_STATEMENT) {
                return NONE;
            }
            texts.append(symbol);
            return texts.size(open);
        }

        private boolean mayStandNext(int symbol) {
            int place = texts.size(open);
            if (place == 0) {
                return symbols.isConstant(symbol);
            }
            return kindOf(open) != FLOATING || (place == 1 && symbols.isVariable(symbol));
        }

        int addNeed(int hypothesis) {
            if (!isAssertionOpen() || !isClosedHypothesis(hypothesis) || !mayBeNeeded(hypothesis)
                    || needs.size(open) >= MOST_NEEDS) {
                return NONE;
            }
            if (kindOf(hypothesis) == FLOATING) {
                setFloating(texts.get(hypothesis, 1));
            }
            needs.append(hypothesis);
            return needs.size(open);
        }

        private boolean mayBeNeeded(int hypothesis) {
            if (kindOf(hypothesis) == FLOATING) {
                return !hasFloating(texts.get(hypothesis, 1));
            }
            return !isNeeded(hypothesis) && allHaveFloating(hypothesis);
        }

        private boolean isNeeded(int hypothesis) {
            int size = needs.size(open);
            for (int k = 0; k < size; k++) {
                if (needs.get(open, k) == hypothesis) {
                    return true;
                }
            }
            return false;
        }

        private void setFloating(int variable) {
            if (symbols.isVariable(variable)) {
                floatsIn[variable] = open;
            }
        }

        /** Whether the open assertion has a floating hypothesis of the variable. */
        private boolean hasFloating(int variable) {
            return symbols.isVariable(variable) && floatsIn[variable] == open;
        }

        /** Whether the open assertion has floating hypotheses of all variables in a statement. */
        private boolean allHaveFloating(int i) {
            int size = texts.size(i);
            for (int k = 0; k < size; k++) {
                int symbol = texts.get(i, k);
                if (symbols.isVariable(symbol) && !hasFloating(symbol)) {
                    return false;
                }
            }
            return true;
        }

        int addPair(int s, int t) {
            if (!isAssertionOpen() || s == t || !hasFloating(s) || !hasFloating(t)
                    || isPair(s, t) || pairs.size(open) / 2 >= MOST_PAIRS) {
                return NONE;
            }
            pairs.append(s);
            pairs.append(t);
            return pairs.size(open) / 2;
        }

        private boolean isPair(int s, int t) {
            int size = pairs.size(open);
            for (int k = 0; k + 1 < size; k += 2) {
                int one = pairs.get(open, k);
                int other = pairs.get(open, k + 1);
                if ((one == s && other == t) || (one == t && other == s)) {
                    return true;
                }
            }
            return false;
        }

        boolean finish() {
            if (open == NONE || !isWhole()) {
                return false;
            }
            open = NONE;
            return true;
        }

        private boolean isWhole() {
            int size = texts.size(open);
            switch (kindOf(open)) {
                case FLOATING:
                    return size == 2;
                case ASSERTION:
                    return size > 0 && allHaveFloating(open);
                default:
                    return size > 0;
            }
        }
    }

    /**
     * What the variables of an assertion become in one step. Nothing is copied: a variable becomes
     * what stands behind the first symbol of its row on the pile.
     */
    private static final class Becoming {
        private final Symbols symbols;
        private final Rows pile;
        /** Older steps' rows stay in here; an assertion's own variables are learned before they are asked for. */
        private final int[] rowOf = new int[MOST_SYMBOLS];
        /** The different variables in each row that the step takes, the lowest row first. */
        private final Rows inside = new Rows(MOST_NEEDS);
        private int lowest = 0;
        /** The mark of the last row in which a variable was seen: spares emptying it for each row. */
        private final int[] seen = new int[MOST_SYMBOLS];
        private int mark = 0;

        Becoming(Symbols symbols, Rows pile) {
            this.symbols = symbols;
            this.pile = pile;
        }

        private int rowFor(int variable) {
            return symbols.isVariable(variable) ? rowOf[variable] : NONE;
        }

        /** Whether the row fits the floating hypothesis; its variable then becomes the rest of it. */
        boolean learn(Rows texts, int floating, int row) {
            int variable = texts.get(floating, 1);
            if (pile.size(row) < 1 || pile.get(row, 0) != texts.get(floating, 0)
                    || !symbols.isVariable(variable)) {
                return false;
            }
            rowOf[variable] = row;
            return true;
        }

        /** Whether a statement's symbols, replaced, are the row. */
        boolean makes(Rows texts, int i, int row) {
            int done = 0;
            int size = texts.size(i);
            for (int k = 0; k < size; k++) {
                int symbol = texts.get(i, k);
                if (symbols.isVariable(symbol)) {
                    int from = rowFor(symbol);
                    int more = pile.size(from) - 1;
                    if (!pile.isSame(row, done, pile, from, 1, more)) {
                        return false;
                    }
                    done += more;
                } else {
                    if (pile.get(row, done) != symbol) {
                        return false;
                    }
                    done++;
                }
            }
            return done == pile.size(row);
        }

        /** Writes a statement's symbols, replaced, as far as there is room: how many they are. */
        int write(Rows texts, int i, int[] to) {
            int done = 0;
            int size = texts.size(i);
            for (int k = 0; k < size; k++) {
                int symbol = texts.get(i, k);
                if (symbols.isVariable(symbol)) {
                    int from = rowFor(symbol);
                    int more = Math.max(pile.size(from) - 1, 0);
                    pile.copyPart(from, 1, more, to, done);
                    done += more;
                } else {
                    if (done < to.length) {
                        to[done] = symbol;
                    }
                    done++;
                }
            }
            return done;
        }

        /** Once for each step: a variable may be in many pairs, and its row is long. */
        void listVariables(int first) {
            lowest = first;
            inside.dropTo(0);
            int rows = pile.rows();
            for (int row = first; row < rows; row++) {
                inside.addEmpty();
                mark++;
                int size = pile.size(row);
                for (int k = 1; k < size; k++) {
                    int symbol = pile.get(row, k);
                    if (symbols.isVariable(symbol) && seen[symbol] != mark) {
                        seen[symbol] = mark;
                        inside.append(symbol);
                    }
                }
            }
        }

        /** A variable is not parted from itself, so one that is in both is found here too. */
        boolean areApart(int s, int t) {
            int one = rowFor(s) - lowest;
            int other = rowFor(t) - lowest;
            int sizeOfOne = inside.size(one);
            int sizeOfOther = inside.size(other);
            for (int j = 0; j < sizeOfOne; j++) {
                for (int k = 0; k < sizeOfOther; k++) {
                    if (!symbols.areParted(inside.get(one, j), inside.get(other, k))) {
                        return false;
                    }
                }
            }
            return true;
        }
    }
}
