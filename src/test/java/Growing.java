/** A run with statements by which a row of any length can be made in a few steps. */
final class Growing {
    static final int C = 0;
    static final int V = 1;
    static final int FLOATING = 0;
    /** What is behind the type, twice. */
    static final int TWICE = 1;
    /** The same and one symbol more. */
    static final int TWICE_AND_ONE = 2;
    /** A hypothesis of one symbol. */
    static final int BARE = 3;
    /** The row and one symbol more. */
    static final int ONE_MORE = 4;
    /** The row as it is. */
    static final int SAME = 5;
    /** How many statements the run has. */
    static final int STATEMENTS = 6;

    private Growing() {
    }

    static Run run(Due d, String sentence) {
        Run r = new Run(d, sentence);
        r.constant();
        r.variable();
        r.floating(C, V);
        r.assertion(Run.needs(FLOATING), C, V, V);
        r.assertion(Run.needs(FLOATING), C, V, V, C);
        r.essential(C);
        r.assertion(Run.needs(FLOATING), C, V, C);
        r.assertion(Run.needs(FLOATING), C, V);
        return r;
    }

    /** Puts a row of that many symbols on the pile, by at most eleven steps. */
    static void grow(Run r, int length) {
        int behind = length - 1;
        if (behind == 0) {
            r.step(BARE, 0);
            return;
        }
        r.step(FLOATING, 0);
        for (int bit = Integer.highestOneBit(behind) >> 1; bit > 0; bit >>= 1) {
            r.step((behind & bit) == 0 ? TWICE : TWICE_AND_ONE, 0);
        }
    }

    /**
     * Fills pile and saved rows with that many symbols, of which the given thousands are saved; on
     * top is a row of less than 1000 symbols, or of 1000 where the number is a round one.
     */
    static void fill(Run r, int savedThousands, int symbols) {
        grow(r, 1000);
        for (int n = 0; n < savedThousands; n++) {
            r.save(n);
        }
        int rows = symbols / 1000 - savedThousands;
        if (savedThousands > 0) {
            r.againTimes(0, rows - 1);
        } else {
            for (int n = 1; n < rows; n++) {
                grow(r, 1000);
            }
        }
        if (symbols % 1000 > 0) {
            grow(r, symbols % 1000);
        }
        r.count(4, symbols);
    }
}
