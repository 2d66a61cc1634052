/** Short ways to tell a StepPile symbols and statements; each answers the number that it got. */
final class Telling {
    private Telling() {
    }

    static int constant(StepPile x) {
        return x.symbol(1);
    }

    static int variable(StepPile x) {
        return x.symbol(0);
    }

    static int floating(StepPile x, int type, int variable) {
        return statement(x, 0, new int[0], type, variable);
    }

    static int essential(StepPile x, int... text) {
        return statement(x, 1, new int[0], text);
    }

    static int assertion(StepPile x, int[] needs, int... text) {
        return statement(x, 2, needs, text);
    }

    static int[] needs(int... hypotheses) {
        return hypotheses;
    }

    private static int statement(StepPile x, int kind, int[] needs, int... text) {
        int i = x.begin(kind);
        for (int hypothesis : needs) {
            expect(x.need(hypothesis) != StepPile.NONE, "need");
        }
        for (int symbol : text) {
            expect(x.put(symbol) != StepPile.NONE, "put");
        }
        expect(x.close() == 1, "close");
        return i;
    }

    static void steps(StepPile x, int... statements) {
        for (int i : statements) {
            expect(x.step(i) == 0, "step");
        }
    }

    /** Whether a row of the pile has just these symbols. */
    static boolean isRow(StepPile x, int row, int... symbols) {
        if (x.length(row) != symbols.length) {
            return false;
        }
        for (int k = 0; k < symbols.length; k++) {
            if (x.at(row, k) != symbols[k]) {
                return false;
            }
        }
        return true;
    }

    private static void expect(boolean holds, String call) {
        if (!holds) {
            throw new IllegalStateException("a test could not be set up: " + call);
        }
    }
}
