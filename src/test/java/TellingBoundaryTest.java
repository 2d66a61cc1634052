/** Each sentence of promises 1 to 8 that names a boundary case, with a test of its own. */
public final class TellingBoundaryTest {
    private static final int NONE = Run.NONE;
    private static final Due d = new Due();

    private TellingBoundaryTest() {
    }

    public static void main(String[] args) {
        newObject();
        newObjectSharesNothing();
        symbolOfAnotherWhat();
        beginWhenOneIsOpen();
        beginOfNoSuchKind();
        beginWithoutSymbols();
        putWhenNoneIsOpen();
        putOfNoSuchSymbol();
        putOfAVariableFirst();
        putOfAThird();
        putOfAConstantSecond();
        putWhenThereAre300();
        needWhenNoAssertionIsOpen();
        needOfNoSuchHypothesis();
        needOfOneItHas();
        needOfAVariableThatHasOne();
        needOfAnEssentialOne();
        needOfALongEssentialOne();
        needWhenItHas60();
        pairWhenNoAssertionIsOpen();
        pairOfNoTwoVariables();
        pairWithoutFloatingOnes();
        pairOfAPair();
        pairWhenItHas200();
        closeWhenNoneIsOpen();
        closeWithoutSymbols();
        closeOfAFloatingOne();
        closeOfAnAssertion();
        closeOfAnEssentialOne();
        apartOfNoTwoVariables();
        apartOfThoseThatWere();
        apartFromNowOn();
        apartOfTheLastSymbols();
        d.end();
    }

    private static Run run(String sentence) {
        return new Run(d, sentence);
    }

    private static void newObject() {
        Run r = run("promise 1: No symbols, no statements, nothing on the pile");
        for (int what = 0; what < 5; what++) {
            r.count(what, 0);
        }
        r.put(0, NONE);
        r.need(0, NONE);
        r.pair(0, 1, NONE);
        r.close(0);
        r.apart(0, 1, 0);
        r.step(0, NONE);
        r.save(NONE);
        r.again(0, NONE);
        r.clear(0);
        r.length(0, NONE);
        r.at(0, 0, NONE);
        r.told(0, 0, NONE);
        r.is(0, 0, NONE);
        r.check(1);
        for (int what = 0; what < 5; what++) {
            r.count(what, 0);
        }
    }

    private static void newObjectSharesNothing() {
        Run r = run("promise 1: No symbols, no statements, whatever another object has");
        int c = r.constant();
        int v = r.variable();
        int w = r.variable();
        r.apart(v, w, 1);
        int f = r.floating(c, v);
        r.openAssertion(f);
        r.step(f, 0);
        r.save(0);
        Run other = run("promise 1: No symbols, no statements, whatever another object has");
        other.empty();
        other.count(0, 0);
        other.count(1, 0);
        other.put(0, NONE);
        other.symbol(0, 0);
        other.symbol(0, 1);
        other.symbol(0, 2);
        other.apart(v, w, 1);
        r.count(0, 3);
        r.count(4, 4);
    }

    private static void symbolOfAnotherWhat() {
        Run r = run("promise 2: NONE for another what");
        for (int what : Run.WRONG) {
            r.keeps(() -> r.symbol(what, NONE));
        }
        r.symbol(2, NONE);
        r.symbol(0, 0);
        r.symbol(2, NONE);
        r.symbol(1, 1);
        r.symbol(-1, NONE);
        r.count(0, 2);
    }

    private static void beginWhenOneIsOpen() {
        for (int kind = 0; kind < 3; kind++) {
            Run r = run("promise 3: NONE when one is open, of kind " + kind);
            int c = r.constant();
            int v = r.variable();
            int f = r.floating(c, v);
            r.begin(kind, 1);
            for (int next = 0; next < 3; next++) {
                int which = next;
                r.keeps(() -> r.begin(which, NONE));
            }
            r.put(c, 1);
            r.keeps(() -> r.begin(1, NONE));
            if (kind == 2) {
                r.need(f, 1);
            }
            r.put(v, 2);
            r.keeps(() -> r.begin(1, NONE));
            r.close(1);
            r.begin(kind, 2);
        }
    }

    private static void beginOfNoSuchKind() {
        Run r = run("promise 3: NONE when there is no such kind");
        int c = r.constant();
        for (int kind : Run.WRONG) {
            r.keeps(() -> r.begin(kind, NONE));
        }
        r.begin(3, NONE);
        r.put(c, NONE);
        r.close(0);
        r.begin(0, 0);
        r.told(0, 4, 0);
    }

    private static void beginWithoutSymbols() {
        Run r = run("promise 3: One more statement of a kind, open, without symbols");
        int c = r.constant();
        int v = r.variable();
        int w = r.variable();
        int f = r.floating(c, v);
        int g = r.floating(c, w);
        r.paired(v, w, Run.needs(f, g), c, v, w);
        for (int kind = 0; kind < 3; kind++) {
            r.begin(kind, 3 + kind);
            r.told(3 + kind, 0, 0);
            r.told(3 + kind, 1, 0);
            r.told(3 + kind, 2, 0);
            r.told(3 + kind, 3, 0);
            r.told(3 + kind, 4, kind);
            r.put(c, 1);
            if (kind == 0) {
                r.put(v, 2);
            }
            r.close(1);
        }
    }

    private static void putWhenNoneIsOpen() {
        Run r = run("promise 4: NONE when none is open");
        int c = r.constant();
        int v = r.variable();
        r.keeps(() -> r.put(c, NONE));
        r.keeps(() -> r.put(v, NONE));
        r.essential(c, v);
        r.keeps(() -> r.put(c, NONE));
        r.keeps(() -> r.put(v, NONE));
    }

    private static void putOfNoSuchSymbol() {
        for (int kind = 0; kind < 3; kind++) {
            Run r = run("promise 4: NONE when there is no such symbol, kind " + kind);
            int c = r.constant();
            int v = r.variable();
            r.begin(kind, 0);
            r.keeps(() -> r.put(2, NONE));
            for (int s : Run.WRONG) {
                r.put(s, NONE);
            }
            r.put(c, 1);
            r.keeps(() -> r.put(2, NONE));
            for (int s : Run.WRONG) {
                r.put(s, NONE);
            }
            r.told(0, 0, 1);
            r.put(v, 2);
            if (kind > 0) {
                r.put(2, NONE);
                r.symbol(1, 2);
                r.put(2, 3);
            }
        }
    }

    private static void putOfAVariableFirst() {
        for (int kind = 0; kind < 3; kind++) {
            Run r = run("promise 4: it may not stand there, a variable first, kind " + kind);
            int v = r.variable();
            int c = r.constant();
            r.begin(kind, 0);
            r.keeps(() -> r.put(v, NONE));
            r.close(0);
            r.put(c, 1);
            r.put(v, 2);
        }
    }

    private static void putOfAThird() {
        Run r = run("promise 4: it may not stand there, a third one in a floating one");
        int c = r.constant();
        int v = r.variable();
        int w = r.variable();
        r.begin(0, 0);
        r.puts(c, v);
        r.keeps(() -> r.put(v, NONE));
        r.keeps(() -> r.put(w, NONE));
        r.keeps(() -> r.put(c, NONE));
        r.close(1);
        r.begin(1, 1);
        r.puts(c, v, w);
        r.close(1);
    }

    private static void putOfAConstantSecond() {
        Run r = run("promise 4: it may not stand there, a constant as second one there");
        int c = r.constant();
        int k = r.constant();
        int v = r.variable();
        r.begin(0, 0);
        r.put(c, 1);
        r.keeps(() -> r.put(c, NONE));
        r.keeps(() -> r.put(k, NONE));
        r.put(v, 2);
        r.close(1);
        for (int kind = 1; kind < 3; kind++) {
            r.begin(kind, kind);
            r.puts(c, k, c);
            r.close(1);
        }
    }

    private static void putWhenThereAre300() {
        Run r = run("promise 4: NONE when there are 300");
        int c = r.constant();
        int v = r.variable();
        r.begin(1, 0);
        for (int n = 1; n <= 300; n++) {
            r.put(n == 300 ? v : c, n);
        }
        r.keeps(() -> r.put(c, NONE));
        r.keeps(() -> r.put(v, NONE));
        r.keeps(() -> r.put(2, NONE));
        r.close(1);
        r.begin(1, 1);
        r.put(c, 1);
    }

    private static void needWhenNoAssertionIsOpen() {
        Run r = run("promise 5: NONE when no assertion is open");
        int c = r.constant();
        int v = r.variable();
        int f = r.floating(c, v);
        int e = r.essential(c);
        r.keeps(() -> r.need(e, NONE));
        for (int kind = 0; kind < 2; kind++) {
            r.begin(kind, 2 + kind);
            r.keeps(() -> r.need(e, NONE));
            r.keeps(() -> r.need(f, NONE));
            r.puts(c, v);
            r.close(1);
        }
        int a = r.assertion(Run.needs(f), c);
        r.keeps(() -> r.need(e, NONE));
        r.told(a, 1, 1);
    }

    private static void needOfNoSuchHypothesis() {
        Run r = run("promise 5: NONE when there is no such closed hypothesis");
        int c = r.constant();
        int v = r.variable();
        int e = r.essential(c);
        int a = r.assertion(Run.needs(), c);
        int open = r.openAssertion(e);
        r.keeps(() -> r.need(a, NONE));
        r.keeps(() -> r.need(open, NONE));
        r.keeps(() -> r.need(open + 1, NONE));
        for (int i : Run.WRONG) {
            r.keeps(() -> r.need(i, NONE));
        }
        r.put(c, 1);
        r.need(open, NONE);
        r.close(1);
        r.openAssertion();
        r.keeps(() -> r.need(open, NONE));
        r.pair(v, v, NONE);
        r.need(e, 1);
    }

    private static void needOfOneItHas() {
        Run r = run("promise 5: NONE when it has it already");
        int c = r.constant();
        int v = r.variable();
        int f = r.floating(c, v);
        int[] e = {r.essential(c), r.essential(c), r.essential(c, v)};
        r.openAssertion(e[0], f, e[1], e[2]);
        for (int i : new int[] {e[0], f, e[1], e[2]}) {
            r.keeps(() -> r.need(i, NONE));
        }
        r.put(c, 1);
        r.close(1);
        r.openAssertion(e[1], e[0], f, e[2]);
    }

    private static void needOfAVariableThatHasOne() {
        Run r = run("promise 5: NONE when its variable has one there (a floating one)");
        int c = r.constant();
        int k = r.constant();
        int v = r.variable();
        int w = r.variable();
        int f = r.floating(c, v);
        int same = r.floating(c, v);
        int otherType = r.floating(k, v);
        int otherVariable = r.floating(c, w);
        r.openAssertion(f);
        r.keeps(() -> r.need(same, NONE));
        r.keeps(() -> r.need(otherType, NONE));
        r.need(otherVariable, 2);
        r.keeps(() -> r.need(same, NONE));
        r.put(c, 1);
        r.close(1);
        r.openAssertion(same, otherVariable);
    }

    private static void needOfAnEssentialOne() {
        Run r = run("promise 5: NONE when a variable of it has none there (an essential one)");
        int c = r.constant();
        int v = r.variable();
        int w = r.variable();
        int f = r.floating(c, v);
        int g = r.floating(c, w);
        int both = r.essential(c, v, w);
        int onlyV = r.essential(c, v);
        int none = r.essential(c, c);
        r.openAssertion(none);
        r.keeps(() -> r.need(onlyV, NONE));
        r.keeps(() -> r.need(both, NONE));
        r.need(f, 2);
        r.need(onlyV, 3);
        r.keeps(() -> r.need(both, NONE));
        r.need(g, 4);
        r.need(both, 5);
        r.put(c, 1);
        r.close(1);
        r.openAssertion();
        r.keeps(() -> r.need(onlyV, NONE));
    }

    private static void needOfALongEssentialOne() {
        Run r = run("promise 5: NONE when a variable of it has none there, the last one of 300 symbols");
        int c = r.constant();
        int v = r.variable();
        int w = r.variable();
        int f = r.floating(c, v);
        int g = r.floating(c, w);
        int[] text = new int[300];
        for (int k = 1; k < 300; k++) {
            text[k] = k == 299 ? w : v;
        }
        int e = r.essential(text);
        r.openAssertion(f);
        r.keeps(() -> r.need(e, NONE));
        r.need(g, 2);
        r.need(e, 3);
    }

    private static void needWhenItHas60() {
        Run r = run("promise 5: NONE when it has 60");
        int c = r.constant();
        int v = r.variable();
        int f = r.floating(c, v);
        int[] e = new int[61];
        for (int n = 0; n < 61; n++) {
            e[n] = r.essential(c);
        }
        int a = r.openAssertion();
        for (int n = 0; n < 60; n++) {
            r.need(e[n], n + 1);
        }
        r.keeps(() -> r.need(e[60], NONE));
        r.keeps(() -> r.need(f, NONE));
        r.keeps(() -> r.need(e[0], NONE));
        r.puts(c, v);
        r.close(0);
        r.told(a, 1, 60);
    }

    private static void pairWhenNoAssertionIsOpen() {
        Run r = run("promise 6: NONE when no assertion is open");
        int c = r.constant();
        int v = r.variable();
        int w = r.variable();
        int f = r.floating(c, v);
        int g = r.floating(c, w);
        r.keeps(() -> r.pair(v, w, NONE));
        for (int kind = 0; kind < 2; kind++) {
            r.begin(kind, 2 + kind);
            r.keeps(() -> r.pair(v, w, NONE));
            r.puts(c, v);
            r.close(1);
        }
        int a = r.assertion(Run.needs(f, g), c);
        r.keeps(() -> r.pair(v, w, NONE));
        r.begin(1, 5);
        r.keeps(() -> r.pair(v, w, NONE));
        r.told(a, 2, 0);
    }

    private static void pairOfNoTwoVariables() {
        Run r = run("promise 6: NONE when s and t are not two different variables");
        int c = r.constant();
        int k = r.constant();
        int v = r.variable();
        int w = r.variable();
        int f = r.floating(c, v);
        int g = r.floating(c, w);
        r.openAssertion(f, g);
        r.keeps(() -> r.pair(v, v, NONE));
        r.keeps(() -> r.pair(v, c, NONE));
        r.keeps(() -> r.pair(c, v, NONE));
        r.keeps(() -> r.pair(c, k, NONE));
        r.keeps(() -> r.pair(v, 4, NONE));
        r.keeps(() -> r.pair(4, v, NONE));
        for (int s : Run.WRONG) {
            r.pair(s, v, NONE);
            r.pair(v, s, NONE);
            r.pair(s, s, NONE);
            r.pair(s, Integer.MAX_VALUE - 2, NONE);
        }
        r.pair(w, v, 1);
    }

    private static void pairWithoutFloatingOnes() {
        Run r = run("promise 6: NONE when s and t do not both have floating hypotheses there");
        int c = r.constant();
        int v = r.variable();
        int w = r.variable();
        int u = r.variable();
        int f = r.floating(c, v);
        int g = r.floating(c, w);
        r.openAssertion();
        r.keeps(() -> r.pair(v, w, NONE));
        r.need(g, 1);
        r.keeps(() -> r.pair(v, w, NONE));
        r.keeps(() -> r.pair(w, v, NONE));
        r.need(f, 2);
        r.pair(v, w, 1);
        r.keeps(() -> r.pair(v, u, NONE));
        r.keeps(() -> r.pair(u, w, NONE));
        r.put(c, 1);
        r.close(1);
        r.openAssertion(f);
        r.keeps(() -> r.pair(v, w, NONE));
    }

    private static void pairOfAPair() {
        Run r = run("promise 6: NONE when they are a pair already");
        int c = r.constant();
        int[] v = {r.variable(), r.variable(), r.variable()};
        int[] f = {r.floating(c, v[0]), r.floating(c, v[1]), r.floating(c, v[2])};
        r.openAssertion(f);
        r.pair(v[1], v[0], 1);
        r.pair(v[1], v[2], 2);
        for (int t = 0; t < 3; t += 2) {
            int other = v[t];
            r.keeps(() -> r.pair(v[1], other, NONE));
            r.keeps(() -> r.pair(other, v[1], NONE));
        }
        r.pair(v[0], v[2], 3);
        r.put(c, 1);
        r.close(1);
        r.openAssertion(f);
        r.pair(v[0], v[1], 1);
    }

    private static void pairWhenItHas200() {
        Run r = run("promise 6: NONE when it has 200");
        int c = r.constant();
        int[] f = new int[22];
        for (int n = 0; n < 22; n++) {
            f[n] = r.floating(c, r.variable());
        }
        int a = r.openAssertion(f);
        int told = 0;
        for (int s = 1; s <= 22 && told < 200; s++) {
            for (int t = s + 1; t <= 22 && told < 200; t++) {
                told++;
                r.pair(s, t, told);
            }
        }
        r.keeps(() -> r.pair(21, 22, NONE));
        r.keeps(() -> r.pair(1, 2, NONE));
        r.put(c, 1);
        r.close(1);
        r.told(a, 2, 200);
        r.openAssertion(f[20], f[21]);
        r.pair(21, 22, 1);
    }

    private static void closeWhenNoneIsOpen() {
        Run r = run("promise 7: 0, and nothing is done, when none is open");
        int c = r.constant();
        r.keeps(() -> r.close(0));
        r.essential(c);
        r.keeps(() -> r.close(0));
        r.begin(3, NONE);
        r.keeps(() -> r.close(0));
    }

    private static void closeWithoutSymbols() {
        for (int kind = 0; kind < 3; kind++) {
            Run r = run("promise 7: 0, and nothing is done, when it has no symbols, kind " + kind);
            int c = r.constant();
            int v = r.variable();
            int f = r.floating(c, v);
            r.begin(kind, 1);
            r.keeps(() -> r.close(0));
            if (kind == 2) {
                r.need(f, 1);
                r.keeps(() -> r.close(0));
            }
            r.put(v, NONE);
            r.keeps(() -> r.close(0));
            r.put(c, 1);
            r.close(kind == 0 ? 0 : 1);
        }
    }

    private static void closeOfAFloatingOne() {
        Run r = run("promise 7: 0, and nothing is done, when it has not two (a floating one)");
        int c = r.constant();
        int v = r.variable();
        r.begin(0, 0);
        r.put(c, 1);
        r.keeps(() -> r.close(0));
        r.put(c, NONE);
        r.keeps(() -> r.close(0));
        r.put(v, 2);
        r.close(1);
        r.told(0, 3, 1);
    }

    private static void closeOfAnAssertion() {
        Run r = run("promise 7: 0, and nothing is done, when, of an assertion, a variable has no floating hypothesis");
        int c = r.constant();
        int v = r.variable();
        int w = r.variable();
        int f = r.floating(c, v);
        int g = r.floating(c, w);
        int a = r.openAssertion();
        r.puts(c, v, c, w);
        r.keeps(() -> r.close(0));
        r.need(f, 1);
        r.keeps(() -> r.close(0));
        r.step(a, NONE);
        r.need(g, 2);
        r.close(1);
        int b = r.openAssertion(g);
        r.put(c, 1);
        r.put(v, 2);
        r.keeps(() -> r.close(0));
        r.need(f, 2);
        r.close(1);
        r.told(b, 3, 1);
        r.assertion(Run.needs(), c);
        r.assertion(Run.needs(f, g), c);
    }

    private static void closeOfAnEssentialOne() {
        Run r = run("promise 7: 1; only an assertion's variables need floating hypotheses");
        int c = r.constant();
        int v = r.variable();
        int e = r.essential(c, v);
        r.told(e, 3, 1);
        r.step(e, 0);
        r.row(0, c, v);
    }

    private static void apartOfNoTwoVariables() {
        Run r = run("promise 8: 0 when they are none such");
        int c = r.constant();
        int k = r.constant();
        int v = r.variable();
        int w = r.variable();
        r.apart(v, v, 0);
        r.apart(c, k, 0);
        r.apart(c, v, 0);
        r.apart(v, c, 0);
        r.apart(v, 4, 0);
        r.apart(4, v, 0);
        r.apart(4, 5, 0);
        for (int s : Run.WRONG) {
            r.apart(s, v, 0);
            r.apart(v, s, 0);
            r.apart(s, s, 0);
            r.apart(s, Integer.MAX_VALUE - 2, 0);
        }
        r.symbol(0, 4);
        r.symbol(0, 5);
        r.apart(v, 4, 1);
        r.apart(5, 4, 1);
        r.apart(w, v, 1);
    }

    private static void apartOfThoseThatWere() {
        Run r = run("promise 8: 0 when they were apart");
        int v = r.variable();
        int w = r.variable();
        int u = r.variable();
        r.apart(v, w, 1);
        r.apart(v, w, 0);
        r.apart(w, v, 0);
        r.apart(u, v, 1);
        r.apart(v, u, 0);
        r.apart(w, u, 1);
        r.apart(w, u, 0);
    }

    private static void apartFromNowOn() {
        Run r = run("promise 8: Two different variables are apart from now on");
        int c = r.constant();
        int v = r.variable();
        int w = r.variable();
        int f = r.floating(c, v);
        int g = r.floating(c, w);
        int a = r.paired(v, w, Run.needs(f, g), c);
        r.steps(f, g);
        r.step(a, 17);
        r.begin(1, 3);
        r.apart(w, v, 1);
        r.clear(0);
        r.step(a, 15);
        r.apart(w, v, 0);
        r.steps(f, g);
        r.step(a, 0);
        r.steps(g, f);
        r.step(a, 0);
    }

    /** The two that lie last among all that a run can have. */
    private static void apartOfTheLastSymbols() {
        Run r = run("promise 8: the first and the last of many symbols");
        for (int n = 0; n < 500; n++) {
            r.symbol(0, n);
        }
        r.apart(499, 500, 0);
        r.apart(499, 498, 1);
        r.apart(498, 499, 0);
        r.apart(499, 0, 1);
        r.apart(0, 498, 1);
        r.apart(0, 499, 0);
        r.apart(0, 1, 1);
        r.apart(1, 2, 1);
        r.apart(2, 0, 1);
    }
}
