/** The limits that a run of 512 calls can reach, each at its last allowed value and one beyond. */
public final class LimitsTest {
    private static final Due d = new Due();

    private LimitsTest() {
    }

    public static void main(String[] args) {
        symbolsOfAStatement(1);
        symbolsOfAStatement(2);
        mandatoryHypotheses();
        pairs();
        rowsByHypothesis();
        rowsByAssertion();
        rowsByAgain();
        savedRows();
        savedRowsBeforeSymbols();
        longestRow();
        longestRowOfManyVariables();
        allSymbolsByStep();
        allSymbolsByAssertion();
        allSymbolsByAgain();
        allSymbolsBySave();
        d.end();
    }

    private static void isEmpty(StepPile x) {
        d.due("count(2)", x.count(2), 0);
        d.due("count(3)", x.count(3), 0);
        d.due("count(4)", x.count(4), 0);
    }

    private static void symbolsOfAStatement(int kind) {
        d.at("300 symbols of a statement of kind " + kind);
        StepPile x = new StepPile();
        int c = Telling.constant(x);
        x.begin(kind);
        for (int n = 1; n <= 300; n++) {
            d.due("put", x.put(c), n);
        }
        d.due("put of one more", x.put(c), -1);
        d.due("told(0, 0)", x.told(0, 0), 300);
        d.due("close()", x.close(), 1);
        d.due("step(0)", x.step(0), 0);
        d.due("length(0)", x.length(0), 300);
        d.due("is(0, 0)", x.is(0, 0), 1);
    }

    private static void mandatoryHypotheses() {
        d.at("60 mandatory hypotheses");
        StepPile x = new StepPile();
        int c = Telling.constant(x);
        for (int n = 0; n < 61; n++) {
            Telling.essential(x, c);
        }
        int a = x.begin(2);
        for (int n = 0; n < 60; n++) {
            d.due("need", x.need(n), n + 1);
        }
        d.due("need of one more", x.need(60), -1);
        d.due("told(a, 1)", x.told(a, 1), 60);
        x.put(c);
        x.put(c);
        x.close();
        for (int n = 0; n < 61; n++) {
            Telling.steps(x, n);
        }
        d.due("step(a)", x.step(a), 0);
        d.due("count(2)", x.count(2), 2);
        d.isTrue("row 1", Telling.isRow(x, 1, c, c));
        for (int n = 0; n < 57; n++) {
            Telling.steps(x, n);
        }
        d.due("step(a) on 59 rows", x.step(a), 15);
        isEmpty(x);
    }

    private static void pairs() {
        d.at("200 pairs");
        StepPile x = new StepPile();
        int c = Telling.constant(x);
        int[] v = new int[21];
        int[] f = new int[21];
        for (int n = 0; n < 21; n++) {
            v[n] = Telling.variable(x);
            f[n] = Telling.floating(x, c, v[n]);
        }
        int a = x.begin(2);
        for (int n = 0; n < 21; n++) {
            x.need(f[n]);
        }
        x.put(c);
        int told = 0;
        for (int s = 0; s < 21; s++) {
            for (int t = 0; t < s; t++) {
                told++;
                d.due("pair", x.pair(v[s], v[t]), told <= 200 ? told : -1);
            }
        }
        d.due("told(a, 2)", x.told(a, 2), 200);
        x.close();
        for (int n = 0; n < 21; n++) {
            Telling.steps(x, f[n]);
        }
        d.due("step(a): none is apart", x.step(a), 17);
    }

    private static void rowsByHypothesis() {
        d.at("200 rows, by a hypothesis");
        StepPile x = new StepPile();
        int c = Telling.constant(x);
        int e = Telling.essential(x, c);
        for (int n = 1; n <= 200; n++) {
            d.due("step(e)", x.step(e), 0);
        }
        x.save();
        d.due("count(2)", x.count(2), 200);
        d.due("check()", x.check(), 1);
        d.due("length(199)", x.length(199), 1);
        d.due("step(e) once more", x.step(e), 5);
        isEmpty(x);
        d.due("step(e) on nothing", x.step(e), 0);
    }

    private static void rowsByAssertion() {
        d.at("200 rows, by an assertion");
        StepPile x = new StepPile();
        int c = Telling.constant(x);
        int e = Telling.essential(x, c);
        int free = Telling.assertion(x, Telling.needs(), c);
        int swap = Telling.assertion(x, Telling.needs(e), c);
        for (int n = 1; n <= 199; n++) {
            Telling.steps(x, e);
        }
        d.due("step(free)", x.step(free), 0);
        d.due("step(swap): as many rows as before", x.step(swap), 0);
        d.due("count(2)", x.count(2), 200);
        d.due("step(free) once more", x.step(free), 5);
        isEmpty(x);
    }

    private static void rowsByAgain() {
        d.at("200 rows, by again");
        StepPile x = new StepPile();
        int c = Telling.constant(x);
        int e = Telling.essential(x, c);
        Telling.steps(x, e);
        x.save();
        for (int n = 2; n <= 200; n++) {
            d.due("again(0)", x.again(0), 0);
        }
        d.due("again(0) once more", x.again(0), 5);
        isEmpty(x);
        d.due("again(0): nothing is saved", x.again(0), -1);
    }

    private static void savedRows() {
        d.at("300 saved rows");
        StepPile x = new StepPile();
        int c = Telling.constant(x);
        int e = Telling.essential(x, c);
        Telling.steps(x, e);
        for (int n = 0; n < 300; n++) {
            d.due("save()", x.save(), n);
        }
        d.due("save() once more", x.save(), -1);
        d.due("count(2)", x.count(2), 1);
        d.due("count(3)", x.count(3), 300);
        d.due("count(4)", x.count(4), 301);
        d.due("again(299)", x.again(299), 0);
        d.due("again(300)", x.again(300), -1);
    }

    /** Both reasons hold at the end: 300 are saved, and there is no room for the row on top. */
    private static void savedRowsBeforeSymbols() {
        d.at("300 saved rows, and no room for more symbols");
        StepPile x = longRow();
        int bare = Telling.essential(x, 0);
        int three = Telling.assertion(x, Telling.needs(0), 0, 1, 1, 1);
        Telling.steps(x, bare, 0, three, three, three, three);
        d.due("length(2)", x.length(2), 82);
        for (int n = 0; n < 300; n++) {
            d.due("save()", x.save(), n);
        }
        d.due("count(4)", x.count(4), 1000 + 1 + 82 + 300 * 82);
        for (int n = 0; n < 14; n++) {
            Telling.steps(x, 0, 1, 2);
        }
        d.due("count(4)", x.count(4), 39683);
        d.due("save()", x.save(), -1);
        d.due("nothing is done", x.count(4), 39683);
    }

    /** A pile with one row of a constant and 27 * 37 variables, which is 1000 symbols. */
    private static StepPile longRow() {
        StepPile x = new StepPile();
        int c = Telling.constant(x);
        int v = Telling.variable(x);
        int f = Telling.floating(x, c, v);
        int by27 = by(x, c, v, f, 27);
        int by37 = by(x, c, v, f, 37);
        Telling.steps(x, f, by27, by37);
        return x;
    }

    private static int by(StepPile x, int c, int v, int f, int times) {
        int[] text = new int[times + 1];
        for (int k = 1; k <= times; k++) {
            text[k] = v;
        }
        text[0] = c;
        return Telling.assertion(x, Telling.needs(f), text);
    }

    private static void longestRow() {
        d.at("1000 symbols of a row");
        StepPile x = longRow();
        d.due("length(0)", x.length(0), 1000);
        d.due("at(0, 0)", x.at(0, 0), 0);
        d.due("at(0, 999)", x.at(0, 999), 1);
        d.due("at(0, 1000)", x.at(0, 1000), -1);
        int same = Telling.assertion(x, Telling.needs(0), 0, 1);
        int more = Telling.assertion(x, Telling.needs(0), 0, 1, 0);
        int less = Telling.assertion(x, Telling.needs(0), 0);
        d.due("step(same)", x.step(same), 0);
        x.save();
        d.due("step(more)", x.step(more), 5);
        isEmpty(x);
        Telling.steps(x, 0, 1, 2, less);
        d.due("length(0)", x.length(0), 1);
        x.clear();
        Telling.steps(x, 0, 1, 2);
        d.due("a row far too long", x.step(2), 5);
        isEmpty(x);
    }

    private static void longestRowOfManyVariables() {
        d.at("1000 symbols of a row, ended by a variable");
        StepPile x = longRow();
        int w = Telling.variable(x);
        int fw = Telling.floating(x, 0, w);
        int join = Telling.assertion(x, Telling.needs(0, fw), 0, 1, w);
        int bare = Telling.essential(x, 0);
        Telling.steps(x, bare);
        d.due("nothing is added", x.step(join), 0);
        d.due("length(0)", x.length(0), 1000);
        Telling.steps(x, fw);
        d.due("one is added", x.step(join), 5);
        isEmpty(x);
    }

    /** A pile and saved rows with 40000 symbols: 1000 saved, 39 rows of 1000. */
    private static StepPile full() {
        StepPile x = longRow();
        x.save();
        for (int n = 2; n <= 39; n++) {
            x.again(0);
        }
        d.due("count(2)", x.count(2), 39);
        d.due("count(4)", x.count(4), 40000);
        d.due("check()", x.check(), 1);
        return x;
    }

    private static void allSymbolsByStep() {
        d.at("40000 symbols, by a hypothesis");
        StepPile x = full();
        int bare = Telling.essential(x, 0);
        d.due("step(bare)", x.step(bare), 5);
        isEmpty(x);
        d.due("step(bare) on nothing", x.step(bare), 0);
        d.due("count(4)", x.count(4), 1);
    }

    private static void allSymbolsByAssertion() {
        d.at("40000 symbols, by an assertion");
        StepPile x = full();
        int same = Telling.assertion(x, Telling.needs(0), 0, 1);
        int bare = Telling.assertion(x, Telling.needs(0), 0);
        int oneMore = Telling.assertion(x, Telling.needs(0), 0, 1, 0);
        d.due("step(same): what is taken off does not count", x.step(same), 0);
        d.due("count(4)", x.count(4), 40000);
        d.due("step(bare)", x.step(bare), 0);
        d.due("count(4)", x.count(4), 39001);
        fillTo40000(x, oneMore);
        d.due("step(oneMore): the row is not too long", x.step(oneMore), 5);
        isEmpty(x);
    }

    /** From 39001 symbols on: a row of 999 symbols more, by 27 * 36 variables and steps that add one. */
    private static void fillTo40000(StepPile x, int oneMore) {
        int by36 = by(x, 0, 1, 0, 36);
        Telling.steps(x, 0, 1, by36);
        d.due("count(4)", x.count(4), 39001 + 973);
        for (int n = 0; n < 26; n++) {
            d.due("step(oneMore)", x.step(oneMore), 0);
        }
        d.due("count(4)", x.count(4), 40000);
        d.due("length(39)", x.length(39), 999);
    }

    private static void allSymbolsByAgain() {
        d.at("40000 symbols, by again");
        StepPile x = full();
        d.due("again(0)", x.again(0), 5);
        isEmpty(x);
        d.due("again(0): nothing is saved", x.again(0), -1);
    }

    private static void allSymbolsBySave() {
        d.at("40000 symbols, by save");
        StepPile x = longRow();
        for (int n = 0; n < 39; n++) {
            d.due("save()", x.save(), n);
        }
        d.due("count(4)", x.count(4), 40000);
        d.due("save() once more", x.save(), 5);
        isEmpty(x);
        d.due("save() of nothing", x.save(), -1);
        Telling.steps(x, 0);
        d.due("save() from 0 again", x.save(), 0);
    }
}
