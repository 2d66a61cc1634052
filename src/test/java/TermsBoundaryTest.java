/** Each sentence of 'What it is' and 'Terms' that names a boundary case, with a test of its own. */
public final class TermsBoundaryTest {
    private static final int NONE = Run.NONE;
    private static final Due d = new Due();

    private TermsBoundaryTest() {
    }

    public static void main(String[] args) {
        uses512Calls();
        symbolsFrom0();
        symbols1000AtMost();
        statementsFrom0();
        statement0AnAssertion();
        statements300AtMost();
        statementOf300Symbols();
        firstOneAConstant();
        floatingOfTwo();
        oneAtATime();
        closedForGood();
        hypothesesInOrder();
        hypotheses60AtMost();
        closedOnes();
        noVariableInTwo();
        floatingOneBefore();
        pairsOfDifferentVariables();
        pairs200AtMost();
        variablesInItsOwnSymbols();
        rows200AtMost();
        takesAsManyRows();
        takes60Rows();
        beginsWithItsType();
        perhapsNothing();
        mustBeThatHypothesis();
        hypothesisReplacedByNothing();
        longestHypothesis();
        noVariableInBoth();
        sameThoughAllAreApart();
        eachVariableApart();
        lastOf200Pairs();
        noOthersThanPairs();
        pairsAboveOtherRows();
        lastVariableOfALongRow();
        replacedLikewise();
        tooFewRowsFirst();
        noFitBeforeNotApart();
        noFitBeforeTooMuch();
        notApartBeforeTooMuch();
        noFitInAnyRow();
        newRowOf1000();
        newRowFarTooLong();
        pileOf200();
        pileOf200ByAssertions();
        symbols40000();
        symbols40000OnThePile();
        symbols40000Saved();
        takenRowsDoNotCount();
        emptyWithAFault();
        restStaysWithAFault();
        d.end();
    }

    private static Run run(String sentence) {
        return new Run(d, sentence);
    }

    private static Run growing(String sentence) {
        return Growing.run(d, sentence);
    }

    private static void uses512Calls() {
        Run r = run("An object is used for at most 512 calls: the 512th call still counts");
        int c = r.constant();
        int e = r.essential(c);
        r.stepTimes(e, 199);
        for (int n = 0; n < 300; n++) {
            r.save(n);
        }
        r.save(NONE);
        r.again(299, 0);
        r.count(2, 200);
        r.count(3, 300);
        r.count(4, 500);
        r.at(199, 0, c);
        r.is(199, e, 1);
        r.check(1);
        r.step(e, 5);
        d.due("calls", r.calls(), 512);
    }

    private static void symbolsFrom0() {
        Run r = run("SYMBOLS are numbered from 0: as many as a run can have");
        for (int n = 0; n < 510; n++) {
            r.symbol(n % 2, n);
        }
        r.apart(508, 0, 1);
        r.count(0, 510);
    }

    private static void symbols1000AtMost() {
        Run r = run("SYMBOLS, 1000 at most");
        r.beyond512();
        for (int n = 0; n < 1000; n++) {
            r.symbol(1 - n % 2, n);
        }
        r.keeps(() -> r.symbol(0, NONE));
        r.keeps(() -> r.symbol(1, NONE));
        r.count(0, 1000);
        r.begin(1, 0);
        r.put(1000, NONE);
        r.put(998, 1);
        r.put(999, 2);
    }

    private static void statementsFrom0() {
        Run r = run("STATEMENTS are numbered from 0: as many as a run can have");
        int c = r.constant();
        for (int n = 0; n < 169; n++) {
            d.due("the number of a statement", r.essential(c), n);
        }
        r.step(168, 0);
        r.step(169, NONE);
        r.count(1, 169);
    }

    private static void statement0AnAssertion() {
        Run r = run("STATEMENTS are numbered from 0: an assertion is the first one");
        int c = r.constant();
        int v = r.variable();
        int w = r.variable();
        r.begin(2, 0);
        r.need(0, NONE);
        r.pair(v, w, NONE);
        r.puts(c, v);
        r.keeps(() -> r.close(0));
        r.step(0, NONE);
    }

    private static void statements300AtMost() {
        Run r = run("STATEMENTS, 300 at most");
        r.beyond512();
        int c = r.constant();
        for (int n = 0; n < 300; n++) {
            d.due("the number of a statement", r.essential(c), n);
        }
        for (int kind = 0; kind < 3; kind++) {
            int which = kind;
            r.keeps(() -> r.begin(which, NONE));
        }
        r.put(c, NONE);
        r.count(1, 300);
        r.step(299, 0);
        r.step(300, NONE);
    }

    private static void statementOf300Symbols() {
        for (int kind = 1; kind < 3; kind++) {
            Run r = run("each of 300 symbols at most, kind " + kind);
            int c = r.constant();
            int v = r.variable();
            int f = r.floating(c, v);
            r.begin(kind, 1);
            if (kind == 2) {
                r.need(f, 1);
            }
            for (int n = 1; n <= 300; n++) {
                r.put(n % 2 == 1 ? c : v, n);
            }
            r.keeps(() -> r.put(c, NONE));
            r.keeps(() -> r.put(v, NONE));
            r.close(1);
            r.told(1, 0, 300);
            if (kind == 2) {
                r.step(f, 0);
            }
            r.step(1, 0);
            r.length(0, 300);
            r.at(0, 298, c);
            r.at(0, 299, v);
            r.is(0, 1, 1);
        }
    }

    private static void firstOneAConstant() {
        Run r = run("the first one a constant");
        int v = r.variable();
        int c = r.constant();
        r.begin(1, 0);
        r.keeps(() -> r.put(v, NONE));
        r.close(0);
        r.put(c, 1);
        r.put(v, 2);
        r.close(1);
    }

    private static void floatingOfTwo() {
        Run r = run("FLOATING hypotheses of a constant and a variable: no less, no more");
        int c = r.constant();
        int v = r.variable();
        r.begin(0, 0);
        r.close(0);
        r.put(v, NONE);
        r.put(c, 1);
        r.close(0);
        r.put(c, NONE);
        r.put(v, 2);
        r.put(v, NONE);
        r.put(c, NONE);
        r.close(1);
        r.told(0, 0, 2);
        r.step(0, 0);
        r.row(0, c, v);
    }

    private static void oneAtATime() {
        Run r = run("A statement is OPEN while it is told, one at a time");
        int c = r.constant();
        int v = r.variable();
        r.begin(1, 0);
        for (int kind = 0; kind < 3; kind++) {
            int which = kind;
            r.keeps(() -> r.begin(which, NONE));
        }
        r.puts(c, v);
        r.begin(1, NONE);
        r.told(0, 3, 0);
        r.close(1);
        r.told(0, 3, 1);
        r.begin(1, 1);
        r.told(0, 3, 1);
        r.told(1, 3, 0);
    }

    private static void closedForGood() {
        Run r = run("then it is CLOSED for good");
        int c = r.constant();
        int v = r.variable();
        int w = r.variable();
        int[] f = {r.floating(c, v), r.floating(c, w)};
        int a = r.assertion(Run.needs(f[0], f[1]), c);
        r.keeps(() -> r.put(c, NONE));
        r.keeps(() -> r.pair(v, w, NONE));
        int e = r.essential(c);
        r.keeps(() -> r.need(e, NONE));
        r.keeps(() -> r.close(0));
        r.begin(1, 4);
        r.put(c, 1);
        r.told(a, 0, 1);
        r.told(a, 1, 2);
        r.told(a, 2, 0);
        r.told(a, 3, 1);
    }

    private static void hypothesesInOrder() {
        Run r = run("MANDATORY hypotheses in order (the last one's is on top)");
        int[] c = {r.constant(), r.constant(), r.constant()};
        int[] e = {r.essential(c[0]), r.essential(c[1]), r.essential(c[2])};
        int up = r.assertion(Run.needs(e[0], e[1], e[2]), c[0], c[1]);
        int down = r.assertion(Run.needs(e[2], e[1], e[0]), c[1], c[0]);
        r.steps(e[0], e[1], e[2], up);
        r.row(0, c[0], c[1]);
        r.clear(1);
        r.steps(e[2], e[1], e[0], down);
        r.row(0, c[1], c[0]);
        r.steps(e[0], e[1], e[2]);
        r.step(down, 16);
        r.steps(e[0], e[2], e[1]);
        r.step(up, 16);
        r.steps(e[1], e[0], e[2]);
        r.step(up, 16);
    }

    private static void hypotheses60AtMost() {
        Run r = run("MANDATORY hypotheses, 60 at most");
        int c = r.constant();
        int[] f = new int[61];
        for (int n = 0; n < 61; n++) {
            f[n] = r.floating(c, r.variable());
        }
        int e = r.essential(c);
        int a = r.openAssertion();
        for (int n = 0; n < 60; n++) {
            r.need(f[n], n + 1);
        }
        r.keeps(() -> r.need(f[60], NONE));
        r.keeps(() -> r.need(e, NONE));
        r.told(a, 1, 60);
        r.pair(1, 61, NONE);
        r.pair(1, 60, 1);
    }

    private static void closedOnes() {
        Run r = run("closed ones");
        int c = r.constant();
        int a = r.assertion(Run.needs(), c);
        int open = r.openAssertion();
        r.keeps(() -> r.need(open, NONE));
        r.keeps(() -> r.need(a, NONE));
        r.keeps(() -> r.need(open + 1, NONE));
    }

    private static void noVariableInTwo() {
        Run r = run("no variable in two floating ones");
        int c = r.constant();
        int k = r.constant();
        int v = r.variable();
        int f = r.floating(c, v);
        int same = r.floating(c, v);
        int other = r.floating(k, v);
        r.openAssertion(f);
        r.keeps(() -> r.need(same, NONE));
        r.keeps(() -> r.need(other, NONE));
        r.put(c, 1);
        r.close(1);
        r.openAssertion(other);
        r.keeps(() -> r.need(f, NONE));
    }

    private static void floatingOneBefore() {
        Run r = run("for each variable of an essential one its floating one before that");
        int c = r.constant();
        int v = r.variable();
        int w = r.variable();
        int fv = r.floating(c, v);
        int fw = r.floating(c, w);
        int e = r.essential(c, v, c, v, w);
        int free = r.essential(c, c);
        r.openAssertion(free);
        r.keeps(() -> r.need(e, NONE));
        r.need(fv, 2);
        r.keeps(() -> r.need(e, NONE));
        r.need(fw, 3);
        r.need(e, 4);
    }

    private static void pairsOfDifferentVariables() {
        Run r = run("PAIRS of different variables that have floating ones there");
        int c = r.constant();
        int v = r.variable();
        int w = r.variable();
        int fv = r.floating(c, v);
        int fw = r.floating(c, w);
        r.openAssertion(fv);
        r.keeps(() -> r.pair(v, v, NONE));
        r.keeps(() -> r.pair(v, c, NONE));
        r.keeps(() -> r.pair(c, v, NONE));
        r.keeps(() -> r.pair(c, c, NONE));
        r.keeps(() -> r.pair(v, w, NONE));
        r.keeps(() -> r.pair(w, v, NONE));
        r.need(fw, 2);
        r.pair(w, v, 1);
    }

    private static void pairs200AtMost() {
        Run r = run("PAIRS, 200 at most");
        int c = r.constant();
        int[] f = new int[21];
        for (int n = 0; n < 21; n++) {
            f[n] = r.floating(c, r.variable());
        }
        int a = r.openAssertion(f);
        int told = 0;
        for (int s = 1; s <= 21 && told < 200; s++) {
            for (int t = 1; t < s && told < 200; t++) {
                told++;
                r.pair(s, t, told);
            }
        }
        r.keeps(() -> r.pair(21, 20, NONE));
        r.keeps(() -> r.pair(20, 21, NONE));
        r.keeps(() -> r.pair(2, 1, NONE));
        r.told(a, 2, 200);
        r.put(c, 1);
        r.close(1);
    }

    private static void variablesInItsOwnSymbols() {
        Run r = run("All variables in its own symbols must have floating ones there");
        int c = r.constant();
        int v = r.variable();
        int w = r.variable();
        int fv = r.floating(c, v);
        int fw = r.floating(c, w);
        int a = r.openAssertion();
        r.puts(c, v, w);
        r.keeps(() -> r.close(0));
        r.need(fw, 1);
        r.keeps(() -> r.close(0));
        r.need(fv, 2);
        r.close(1);
        r.told(a, 3, 1);
        r.openAssertion(fv);
        r.puts(c, v, c, w);
        r.keeps(() -> r.close(0));
    }

    private static void rows200AtMost() {
        Run r = run("THE PILE has rows of symbols, 200 at most");
        int c = r.constant();
        int v = r.variable();
        int f = r.floating(c, v);
        int e = r.essential(c, c, c);
        r.stepTimes(f, 199);
        r.step(e, 0);
        r.count(2, 200);
        r.count(4, 401);
        r.row(0, c, v);
        r.row(198, c, v);
        r.row(199, c, c, c);
        r.length(200, NONE);
        r.check(1);
        r.step(e, 5);
        r.empty();
    }

    private static void takesAsManyRows() {
        Run r = run("takes as many rows off as it has mandatory hypotheses");
        int c = r.constant();
        int k = r.constant();
        int e = r.essential(c);
        int g = r.essential(c, c);
        int none = r.assertion(Run.needs(), k);
        int one = r.assertion(Run.needs(e), k, k);
        int two = r.assertion(Run.needs(g, e), k, k, k);
        r.step(none, 0);
        r.row(0, k);
        r.step(e, 0);
        r.step(one, 0);
        r.count(2, 2);
        r.row(1, k, k);
        r.steps(g, e, two);
        r.count(2, 3);
        r.row(2, k, k, k);
        r.row(1, k, k);
        r.row(0, k);
        r.clear(3);
        r.steps(g, e);
        r.step(two, 0);
        r.count(2, 1);
        r.count(4, 3);
    }

    private static void takes60Rows() {
        for (int rows = 59; rows <= 61; rows++) {
            Run r = run("takes 60 rows off, of " + rows);
            int c = r.constant();
            int[] e = new int[60];
            for (int n = 0; n < 60; n++) {
                e[n] = r.essential(c);
            }
            int a = r.assertion(e, c, c);
            r.stepTimes(e[0], rows);
            r.save(0);
            r.step(a, rows < 60 ? 15 : 0);
            if (rows < 60) {
                r.empty();
            } else {
                r.count(2, rows - 59);
                r.count(4, rows - 60 + 2 + 1);
                r.row(rows - 60, c, c);
            }
        }
    }

    private static void beginsWithItsType() {
        Run r = run("for a floating one the row must begin with its type");
        int c = r.constant();
        int k = r.constant();
        int v = r.variable();
        int f = r.floating(c, v);
        int a = r.assertion(Run.needs(f), k, v, v);
        int typeSecond = r.essential(k, c, v);
        int other = r.essential(k);
        int typeFirst = r.essential(c, k, c);
        r.step(typeSecond, 0);
        r.step(a, 16);
        r.step(other, 0);
        r.step(a, 16);
        r.step(typeFirst, 0);
        r.step(a, 0);
        r.row(0, k, k, c, k, c);
    }

    private static void perhapsNothing() {
        Run r = run("what comes behind that (perhaps nothing) is what its variable BECOMES");
        int c = r.constant();
        int v = r.variable();
        int w = r.variable();
        int f = r.floating(c, v);
        int g = r.floating(c, w);
        int bare = r.essential(c);
        int a = r.paired(v, w, Run.needs(f, g), c, v, c, w, v);
        r.steps(bare, bare);
        r.step(a, 0);
        r.row(0, c, c);
        r.step(bare, 0);
        r.step(a, 0);
        r.row(0, c, c, c, c);
        r.step(bare, 0);
        r.steps(f, a);
        r.row(1, c, c, v);
        int only = r.assertion(Run.needs(f), c, v);
        r.steps(bare, only);
        r.row(2, c);
    }

    /** An assertion for v and an essential hypothesis 'k v c v', where v becomes 'v w'. */
    private static void mustBeThatHypothesis() {
        Run r = run("For an essential one the row must be that hypothesis, replaced");
        int c = r.constant();
        int k = r.constant();
        int v = r.variable();
        int w = r.variable();
        int f = r.floating(c, v);
        int e = r.essential(k, v, c, v);
        int a = r.assertion(Run.needs(f, e), k, v, k);
        int two = r.essential(c, v, w);
        int[] good = {k, v, w, c, v, w};
        int fits = r.essential(good);
        r.steps(two, fits);
        r.step(a, 0);
        r.row(0, k, v, w, k);
        for (int place = 0; place < good.length; place++) {
            int[] wrong = good.clone();
            wrong[place] = place == 0 ? c : place % 2 == 0 ? v : w;
            if (wrong[place] == good[place]) {
                wrong[place] = k;
            }
            int i = r.essential(wrong);
            r.steps(two, i);
            r.step(a, 16);
            r.count(2, 0);
        }
        int shorter = r.essential(k, v, w, c, v);
        int longer = r.essential(k, v, w, c, v, w, w);
        int bare = r.essential(k);
        for (int i : new int[] {shorter, longer, bare, e}) {
            r.steps(two, i);
            r.step(a, 16);
        }
        r.empty();
    }

    private static void hypothesisReplacedByNothing() {
        Run r = run("that hypothesis with each variable replaced, by nothing");
        int c = r.constant();
        int v = r.variable();
        int f = r.floating(c, v);
        int e = r.essential(c, v, v);
        int bare = r.essential(c);
        int a = r.assertion(Run.needs(f, e), c, v, c);
        r.steps(bare, bare);
        r.step(a, 0);
        r.row(0, c, c);
        r.steps(bare, f);
        r.step(a, 16);
        r.steps(f, bare);
        r.step(a, 16);
        r.steps(f, f);
        r.step(a, 16);
        r.steps(f, e);
        r.step(a, 0);
        r.row(0, c, v, c);
    }

    /** What the hypothesis becomes is 1000 symbols, or 1001, while no row is longer than 1000. */
    private static void longestHypothesis() {
        Run r = growing("a hypothesis that becomes a row of 1000 symbols, and more than a row can have");
        int c = Growing.C;
        int v = Growing.V;
        int e = r.essential(c, v, v, v);
        int a = r.assertion(Run.needs(Growing.FLOATING, e), c, c);
        int thrice = r.assertion(Run.needs(Growing.FLOATING), c, v, v, v);
        Growing.grow(r, 334);
        Growing.grow(r, 334);
        r.step(thrice, 0);
        r.length(1, 1000);
        r.step(a, 0);
        r.row(0, c, c);
        Growing.grow(r, 335);
        Growing.grow(r, 1000);
        r.step(a, 16);
        r.empty();
        Growing.grow(r, 1000);
        Growing.grow(r, 1000);
        r.step(a, 16);
    }

    private static void noVariableInBoth() {
        Run r = run("For each pair no variable may be in what both become");
        int c = r.constant();
        int v = r.variable();
        int w = r.variable();
        int u = r.variable();
        int f = r.floating(c, v);
        int g = r.floating(c, w);
        int a = r.paired(v, w, Run.needs(f, g), c, v, w);
        r.apart(v, w, 1);
        r.apart(v, u, 1);
        r.apart(u, w, 1);
        int left = r.essential(c, v, c, u);
        int right = r.essential(c, w, c, u);
        int onlyRight = r.essential(c, w, c);
        r.steps(left, right);
        r.step(a, 17);
        r.steps(f, f);
        r.step(a, 17);
        r.empty();
        r.steps(left, onlyRight);
        r.step(a, 0);
        r.row(0, c, v, c, u, w, c);
    }

    /** The variables are the first symbols, so that none of them is left out of what could be mixed up. */
    private static void sameThoughAllAreApart() {
        Run r = run("17 variables that are not apart, or the same: all are apart, and each one is in both");
        int[] f = new int[6];
        for (int n = 0; n < 6; n++) {
            r.symbol(0, n);
        }
        int c = r.constant();
        for (int n = 0; n < 6; n++) {
            f[n] = r.floating(c, n);
        }
        int a = r.paired(0, 5, Run.needs(f[0], f[5]), c);
        for (int s = 0; s < 6; s++) {
            for (int t = 0; t < s; t++) {
                r.apart(s, t, 1);
            }
        }
        for (int s = 0; s < 6; s++) {
            r.steps(f[s], f[s]);
            r.step(a, 17);
            r.steps(f[s], f[(s + 1) % 6]);
            r.step(a, 0);
        }
    }

    /** v1 becomes three variables, v2 three others: all nine two must be apart. */
    private static void eachVariableApart() {
        for (int missing = 0; missing < 9; missing++) {
            Run r = run("each variable in what the one becomes must be apart from each one, without " + missing);
            int c = r.constant();
            for (int n = 0; n < 6; n++) {
                r.variable();
            }
            int f = r.floating(c, 1);
            int g = r.floating(c, 2);
            int a = r.paired(2, 1, Run.needs(f, g), c);
            int left = r.essential(c, 1, 2, 3);
            int right = r.essential(c, 4, 5, 6);
            for (int n = 0; n < 9; n++) {
                if (n != missing) {
                    r.apart(n % 2 == 0 ? 1 + n / 3 : 4 + n % 3, n % 2 == 0 ? 4 + n % 3 : 1 + n / 3, 1);
                }
            }
            r.steps(left, right);
            r.step(a, 17);
            r.steps(right, left);
            r.step(a, 17);
            r.apart(1 + missing / 3, 4 + missing % 3, 1);
            r.steps(left, right);
            r.step(a, 0);
            r.steps(right, left);
            r.step(a, 0);
            r.count(2, 2);
        }
    }

    private static void lastOf200Pairs() {
        Run r = run("For each pair: only the last one of 200 is not apart");
        int c = r.constant();
        int v = r.variable();
        int w = r.variable();
        int[] f = new int[21];
        f[0] = r.floating(c, v);
        f[1] = r.floating(c, w);
        for (int n = 2; n < 21; n++) {
            f[n] = r.floating(c, r.variable());
        }
        int bare = r.essential(c);
        int a = r.openAssertion(f);
        int told = 0;
        for (int s = 21; s > 1; s--) {
            for (int t = s - 1; t > 0; t--) {
                told++;
                if (told > 10) {
                    r.pair(s, t, told - 10);
                }
            }
        }
        r.put(c, 1);
        r.close(1);
        r.told(a, 2, 200);
        r.steps(f[0], f[1]);
        r.stepTimes(bare, 19);
        r.step(a, 17);
        r.apart(v, w, 1);
        r.steps(f[0], f[1]);
        r.stepTimes(bare, 19);
        r.step(a, 0);
    }

    private static void noOthersThanPairs() {
        Run r = run("For each pair: variables of two pairs need not be apart");
        int c = r.constant();
        int[] f = new int[4];
        for (int n = 0; n < 4; n++) {
            f[n] = r.floating(c, r.variable());
        }
        int a = r.openAssertion(f);
        r.pair(1, 2, 1);
        r.pair(3, 4, 2);
        r.put(c, 1);
        r.close(1);
        r.apart(1, 2, 1);
        r.apart(3, 4, 1);
        r.steps(f[0], f[1], f[2], f[3]);
        r.step(a, 0);
        r.steps(f[0], f[1], f[1], f[0]);
        r.step(a, 0);
        r.steps(f[0], f[2], f[1], f[3]);
        r.step(a, 17);
        r.steps(f[0], f[1], f[1], f[2]);
        r.step(a, 17);
    }

    private static void pairsAboveOtherRows() {
        for (int under : new int[] {0, 1, 2, 198}) {
            Run r = run("For each pair: the rows that are taken off, above " + under + " others");
            int c = r.constant();
            int v = r.variable();
            int w = r.variable();
            int f = r.floating(c, v);
            int g = r.floating(c, w);
            int a = r.paired(v, w, Run.needs(f, g), c, v, w);
            r.stepTimes(f, under);
            r.steps(f, g);
            r.step(a, 17);
            r.empty();
            r.apart(w, v, 1);
            r.stepTimes(f, under);
            r.steps(f, g);
            r.step(a, 0);
            r.row(under, c, v, w);
        }
    }

    private static void lastVariableOfALongRow() {
        Run r = growing("each variable in what the one becomes: the last one of 1000 symbols");
        int c = Growing.C;
        int v = Growing.V;
        int w = r.variable();
        int g = r.floating(c, w);
        int join = r.assertion(Run.needs(Growing.FLOATING, g), c, v, w);
        int a = r.paired(v, w, Run.needs(Growing.FLOATING, g), c, c);
        int u = r.variable();
        int h = r.essential(c, u);
        int bare = Growing.BARE;
        r.apart(v, w, 1);
        Growing.grow(r, 999);
        r.steps(h, join);
        r.length(0, 1000);
        r.at(0, 999, u);
        r.step(g, 0);
        r.step(a, 17);
        Growing.grow(r, 999);
        r.steps(h, join, bare);
        r.step(a, 0);
        r.apart(u, w, 1);
        Growing.grow(r, 999);
        r.steps(h, join, g);
        r.step(a, 0);
        r.row(1, c, c);
    }

    private static void replacedLikewise() {
        Run r = run("the assertion's symbols, replaced likewise: at once, not one after the other");
        int c = r.constant();
        int v = r.variable();
        int w = r.variable();
        int f = r.floating(c, v);
        int g = r.floating(c, w);
        int a = r.assertion(Run.needs(f, g), c, v, w, v);
        int left = r.essential(c, w, v);
        int right = r.essential(c, v, v);
        r.steps(left, right, a);
        r.row(0, c, w, v, v, v, w, v);
    }

    /** Three hypotheses: 'c v', 'c w' and 'k v'; a pair; and v so often that the new row is too long. */
    private static int faulty(Run r) {
        r.constant();
        r.constant();
        r.variable();
        r.variable();
        r.floating(0, 2);
        r.floating(0, 3);
        r.essential(1, 2);
        int a = r.openAssertion(0, 1, 2);
        r.pair(2, 3, 1);
        r.put(0, 1);
        for (int n = 2; n <= 250; n++) {
            r.put(2, n);
        }
        r.close(1);
        r.essential(0, 2, 2, 2, 2, 2);
        r.essential(1, 2, 2, 2, 2, 2);
        return a;
    }

    private static void tooFewRowsFirst() {
        Run r = run("FAULTS of a step, the first of these: 15 before 16, 17 and 5");
        int a = faulty(r);
        r.step(a, 15);
        r.steps(2, 2);
        r.save(0);
        r.step(a, 15);
        r.empty();
        r.steps(4, 4);
        r.step(a, 15);
        r.empty();
    }

    private static void noFitBeforeNotApart() {
        Run r = run("FAULTS of a step, the first of these: 16 before 17");
        int a = faulty(r);
        r.steps(0, 0, 0);
        r.step(a, 16);
        r.steps(4, 4, 2);
        r.step(a, 16);
        r.empty();
        r.steps(0, 0, 2);
        r.step(a, 17);
        r.empty();
    }

    private static void noFitBeforeTooMuch() {
        Run r = run("FAULTS of a step, the first of these: 16 before 5");
        int a = faulty(r);
        r.apart(2, 3, 1);
        r.steps(4, 1, 2);
        r.step(a, 16);
        r.empty();
        r.steps(4, 1, 5);
        r.step(a, 5);
        r.empty();
    }

    private static void notApartBeforeTooMuch() {
        Run r = run("FAULTS of a step, the first of these: 17 before 5");
        int a = faulty(r);
        r.steps(4, 1, 5);
        r.step(a, 17);
        r.empty();
        r.apart(3, 2, 1);
        r.steps(4, 1, 5);
        r.step(a, 5);
        r.empty();
    }

    private static void noFitInAnyRow() {
        Run r = run("16 a row does not fit: the lowest one, one between, the one on top");
        int c = r.constant();
        int k = r.constant();
        int[] v = {r.variable(), r.variable(), r.variable()};
        int[] f = {r.floating(c, v[0]), r.floating(c, v[1]), r.floating(c, v[2])};
        int a = r.assertion(f, c, v[0], v[1], v[2]);
        int wrong = r.essential(k, v[0]);
        for (int place = 0; place < 3; place++) {
            r.step(f[0], 0);
            r.save(0);
            for (int row = 0; row < 3; row++) {
                r.step(row == place ? wrong : f[row], 0);
            }
            r.step(a, 16);
            r.empty();
        }
        r.steps(wrong, f[0], f[1], f[2]);
        r.step(a, 0);
        r.row(1, c, v[0], v[1], v[2]);
    }

    private static void newRowOf1000() {
        Run r = growing("5 the new row has more than 1000 symbols");
        Growing.grow(r, 999);
        r.save(0);
        r.step(Growing.ONE_MORE, 0);
        r.length(0, 1000);
        r.at(0, 999, Growing.C);
        r.step(Growing.SAME, 0);
        r.length(0, 1000);
        r.step(Growing.ONE_MORE, 5);
        r.empty();
    }

    private static void newRowFarTooLong() {
        Run r = growing("5 the new row has more than 1000 symbols, far more");
        int a = r.openAssertion(Growing.FLOATING);
        r.put(Growing.C, 1);
        for (int n = 2; n <= 300; n++) {
            r.put(Growing.V, n);
        }
        r.close(1);
        Growing.grow(r, 1000);
        r.save(0);
        r.step(a, 5);
        r.empty();
        Growing.grow(r, 4);
        r.step(a, 0);
        r.length(0, 1 + 299 * 3);
        r.clear(1);
        r.step(Growing.BARE, 0);
        r.step(a, 0);
        r.row(0, Growing.C);
    }

    private static void pileOf200() {
        Run r = run("5 the pile more than 200 rows, by a hypothesis of either kind");
        int c = r.constant();
        int f = r.floating(c, r.variable());
        int e = r.essential(c);
        for (int i : new int[] {f, e}) {
            r.stepTimes(e, 199);
            r.save(0);
            r.step(i, 0);
            r.count(2, 200);
            r.step(i, 5);
            r.empty();
        }
    }

    private static void pileOf200ByAssertions() {
        Run r = run("5 the pile more than 200 rows, by assertions");
        int c = r.constant();
        int e = r.essential(c);
        int g = r.essential(c, c);
        int none = r.assertion(Run.needs(), c);
        int one = r.assertion(Run.needs(e), c);
        int two = r.assertion(Run.needs(e, g), c);
        r.stepTimes(e, 199);
        r.step(g, 0);
        r.step(two, 0);
        r.count(2, 199);
        r.step(none, 0);
        r.count(2, 200);
        r.step(one, 0);
        r.count(2, 200);
        r.save(0);
        r.step(none, 5);
        r.empty();
    }

    private static void symbols40000() {
        Run r = growing("5 all rows on the pile and all that are saved more than 40000 together");
        Growing.fill(r, 20, 39998);
        r.step(Growing.BARE, 0);
        r.count(4, 39999);
        r.step(Growing.BARE, 0);
        r.count(4, 40000);
        r.check(1);
        r.step(Growing.SAME, 0);
        r.count(4, 40000);
        r.step(Growing.ONE_MORE, 5);
        r.empty();
        Growing.fill(r, 20, 39998);
        r.step(Growing.BARE, 0);
        r.step(Growing.FLOATING, 5);
        r.empty();
        Growing.fill(r, 20, 40000);
        r.step(Growing.BARE, 5);
        r.empty();
    }

    private static void symbols40000OnThePile() {
        Run r = growing("5 more than 40000 together, all of them on the pile");
        Growing.fill(r, 0, 39999);
        r.count(3, 0);
        r.step(Growing.BARE, 0);
        r.count(4, 40000);
        r.count(2, 41);
        r.step(Growing.BARE, 5);
        r.empty();
    }

    private static void symbols40000Saved() {
        Run r = growing("5 more than 40000 together, nearly all of them saved");
        Growing.fill(r, 39, 40000);
        r.count(2, 1);
        r.count(3, 39);
        r.step(Growing.SAME, 0);
        r.step(Growing.BARE, 5);
        r.empty();
    }

    private static void takenRowsDoNotCount() {
        Run r = growing("5 counts the pile as it is when the rows are off and the new one is on");
        int w = r.variable();
        int g = r.floating(Growing.C, w);
        int join = r.assertion(Run.needs(Growing.FLOATING, g), Growing.C, Growing.V, w);
        int joinAndOne = r.assertion(Run.needs(Growing.FLOATING, g), Growing.C, Growing.V, w, w, Growing.C);
        Growing.fill(r, 2, 39500);
        Growing.grow(r, 500);
        r.count(4, 40000);
        r.step(join, 0);
        r.count(4, 39999);
        r.length(37, 999);
        r.step(Growing.BARE, 0);
        r.count(4, 40000);
        r.step(join, 0);
        r.count(4, 39999);
        r.step(Growing.ONE_MORE, 0);
        r.step(Growing.SAME, 0);
        r.clear(38);
        Growing.fill(r, 2, 39500);
        Growing.grow(r, 499);
        r.step(Growing.BARE, 0);
        r.count(4, 40000);
        r.step(joinAndOne, 0);
        r.count(4, 40000);
        r.step(Growing.BARE, 5);
        r.empty();
    }

    private static void emptyWithAFault() {
        for (int fault : new int[] {15, 16, 17, 5}) {
            Run r = run("With a fault the pile and what is saved are empty: " + fault);
            int a = faulty(r);
            if (fault == 5) {
                r.apart(2, 3, 1);
            }
            int[] top = fault == 15 ? Run.needs(0, 1) : fault == 16 ? Run.needs(5, 0, 1, 0)
                    : fault == 17 ? Run.needs(5, 0, 0, 2) : Run.needs(5, 4, 1, 5);
            r.step(top[0], 0);
            r.save(0);
            for (int k = 1; k < top.length; k++) {
                r.step(top[k], 0);
                r.save(k);
            }
            r.step(a, fault);
            r.empty();
            r.clear(0);
            r.step(1, 0);
            r.row(0, 0, 3);
            r.save(0);
            r.again(1, NONE);
        }
    }

    private static void restStaysWithAFault() {
        Run r = run("With a fault symbols, statements, what is apart and the open statement stay");
        int c = r.constant();
        int v = r.variable();
        int w = r.variable();
        int f = r.floating(c, v);
        int a = r.assertion(Run.needs(f), c, v);
        r.apart(v, w, 1);
        int open = r.openAssertion(f);
        r.put(c, 1);
        r.step(a, 15);
        r.count(0, 3);
        r.count(1, 3);
        r.told(a, 3, 1);
        r.told(open, 0, 1);
        r.told(open, 1, 1);
        r.told(open, 3, 0);
        r.apart(w, v, 0);
        r.put(v, 2);
        r.close(1);
        r.steps(f, open);
        r.row(0, c, v);
    }
}
