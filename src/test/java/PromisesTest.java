/** Each promise of the document by its number: ordinary inputs, edges and wrong inputs. */
public final class PromisesTest {
    private static final int[] WILD = {-1, -2, Integer.MIN_VALUE, Integer.MAX_VALUE, 1000000};
    private static final Due d = new Due();

    private PromisesTest() {
    }

    public static void main(String[] args) {
        promise1();
        promise2();
        promise3();
        promise4();
        promise5();
        promise5Variables();
        promise6();
        promise7();
        promise7FirstStatement();
        promise8();
        promise8EachTwo();
        promise9Hypotheses();
        promise9Floating();
        promise9Essential();
        promise9EmptyRest();
        promise9ShortRowOnTop();
        promise9Pairs();
        promise9FaultOrder();
        promise9ManyRows();
        promise9VariableZero();
        promise10();
        promise11();
        promise12();
        promise13();
        promise14And15();
        promise16();
        promise17();
        promise18();
        d.end();
    }

    private static void isEmpty(StepPile x) {
        d.due("count(2)", x.count(2), 0);
        d.due("count(3)", x.count(3), 0);
        d.due("count(4)", x.count(4), 0);
        d.due("length(0)", x.length(0), -1);
        d.due("again(0)", x.again(0), -1);
    }

    private static void promise1() {
        d.at("promise 1");
        d.due("NONE", StepPile.NONE, -1);
        StepPile x = new StepPile();
        d.due("count(0)", x.count(0), 0);
        d.due("count(1)", x.count(1), 0);
        isEmpty(x);
        d.due("step(0)", x.step(0), -1);
        d.due("save()", x.save(), -1);
        d.due("put(0)", x.put(0), -1);
        d.due("need(0)", x.need(0), -1);
        d.due("pair(0, 1)", x.pair(0, 1), -1);
        d.due("close()", x.close(), 0);
        d.due("apart(0, 1)", x.apart(0, 1), 0);
        d.due("told(0, 0)", x.told(0, 0), -1);
        d.due("check()", x.check(), 1);
        StepPile y = new StepPile();
        Telling.constant(x);
        d.due("another object's count(0)", y.count(0), 0);
    }

    private static void promise2() {
        d.at("promise 2");
        StepPile x = new StepPile();
        d.due("symbol(0)", x.symbol(0), 0);
        d.due("symbol(1)", x.symbol(1), 1);
        d.due("symbol(0)", x.symbol(0), 2);
        d.due("symbol(2)", x.symbol(2), -1);
        for (int what : WILD) {
            d.due("symbol(" + what + ")", x.symbol(what), -1);
        }
        d.due("count(0)", x.count(0), 3);
        x.begin(1);
        d.due("put of a variable first", x.put(0), -1);
        d.due("put of a constant first", x.put(1), 1);
        d.due("symbol(1) while a statement is open", x.symbol(1), 3);
    }

    private static void promise3() {
        d.at("promise 3");
        StepPile x = new StepPile();
        int c = Telling.constant(x);
        d.due("begin(3)", x.begin(3), -1);
        for (int kind : WILD) {
            d.due("begin(" + kind + ")", x.begin(kind), -1);
        }
        for (int kind = 1; kind <= 2; kind++) {
            d.due("begin", x.begin(kind), kind - 1);
            d.due("its kind", x.told(kind - 1, 4), kind);
            d.due("its symbols", x.told(kind - 1, 0), 0);
            d.due("it is open", x.told(kind - 1, 3), 0);
            d.due("begin when one is open", x.begin(0), -1);
            x.put(c);
            d.due("begin when one is still open", x.begin(kind), -1);
            x.close();
        }
        d.due("begin(0)", x.begin(0), 2);
        d.due("count(1)", x.count(1), 3);
    }

    private static void promise4() {
        d.at("promise 4");
        StepPile x = new StepPile();
        int c = Telling.constant(x);
        int v = Telling.variable(x);
        d.due("put when none is open", x.put(c), -1);
        x.begin(0);
        d.due("floating: put(2), no such symbol", x.put(2), -1);
        d.due("floating: a variable first", x.put(v), -1);
        d.due("floating: its type", x.put(c), 1);
        d.due("floating: a constant second", x.put(c), -1);
        d.due("floating: its variable", x.put(v), 2);
        d.due("floating: a third, a variable", x.put(v), -1);
        d.due("floating: a third, a constant", x.put(c), -1);
        d.due("told(0, 0)", x.told(0, 0), 2);
        x.close();
        d.due("put when it is closed", x.put(c), -1);
        for (int kind = 1; kind <= 2; kind++) {
            int i = x.begin(kind);
            d.due("a variable first", x.put(v), -1);
            for (int symbol : WILD) {
                d.due("put(" + symbol + ")", x.put(symbol), -1);
            }
            d.due("a constant first", x.put(c), 1);
            d.due("a constant second", x.put(c), 2);
            d.due("a variable third", x.put(v), 3);
            d.due("a variable again", x.put(v), 4);
            d.due("told", x.told(i, 0), 4);
            if (kind == 2) {
                x.need(0);
            }
            x.close();
        }
    }

    private static void promise5() {
        d.at("promise 5");
        StepPile x = new StepPile();
        int c = Telling.constant(x);
        int v = Telling.variable(x);
        int fv = Telling.floating(x, c, v);
        int e = Telling.essential(x, c, c);
        d.due("need when none is open", x.need(fv), -1);
        x.begin(0);
        d.due("need when a floating one is open", x.need(e), -1);
        x.put(c);
        x.put(v);
        x.close();
        x.begin(1);
        d.due("need when an essential one is open", x.need(e), -1);
        x.put(c);
        x.close();
        int a = Telling.assertion(x, Telling.needs(), c);
        int b = x.begin(2);
        for (int i : WILD) {
            d.due("need(" + i + ")", x.need(i), -1);
        }
        d.due("need of an assertion", x.need(a), -1);
        d.due("need of the open one", x.need(b), -1);
        d.due("need of none", x.need(b + 1), -1);
        d.due("need(e)", x.need(e), 1);
        d.due("need(e) again", x.need(e), -1);
        d.due("need(fv)", x.need(fv), 2);
        d.due("need(fv) again", x.need(fv), -1);
        d.due("another floating one of that variable", x.need(2), -1);
        d.due("need(3)", x.need(3), 3);
        d.due("told(b, 1)", x.told(b, 1), 3);
        x.put(c);
        x.close();
        d.due("need when it is closed", x.need(e), -1);
        x.begin(2);
        d.due("the next assertion has none yet", x.need(fv), 1);
        d.due("nor an essential one", x.need(e), 2);
    }

    private static void promise5Variables() {
        d.at("promise 5, variables of an essential one");
        StepPile x = new StepPile();
        int c = Telling.constant(x);
        int v = Telling.variable(x);
        int w = Telling.variable(x);
        int fv = Telling.floating(x, c, v);
        int fw = Telling.floating(x, c, w);
        int e = Telling.essential(x, c, v, c, w);
        int i = x.begin(2);
        d.due("need(e) without v and w", x.need(e), -1);
        d.due("need(fw)", x.need(fw), 1);
        d.due("need(e) without v", x.need(e), -1);
        d.due("told", x.told(i, 1), 1);
        d.due("need(fv)", x.need(fv), 2);
        d.due("need(e)", x.need(e), 3);
        x.put(c);
        x.close();
        x.begin(2);
        d.due("the next assertion: need(e)", x.need(e), -1);
        d.due("the next assertion: need(fv)", x.need(fv), 1);
        d.due("the next assertion: need(e) without w", x.need(e), -1);
    }

    private static void promise6() {
        d.at("promise 6");
        StepPile x = new StepPile();
        int c = Telling.constant(x);
        int[] v = {Telling.variable(x), Telling.variable(x), Telling.variable(x)};
        int[] f = {Telling.floating(x, c, v[0]), Telling.floating(x, c, v[1]), Telling.floating(x, c, v[2])};
        d.due("pair when none is open", x.pair(v[0], v[1]), -1);
        x.begin(1);
        d.due("pair when an essential one is open", x.pair(v[0], v[1]), -1);
        x.put(c);
        x.close();
        int i = x.begin(2);
        d.due("pair without floating ones", x.pair(v[0], v[1]), -1);
        x.need(f[0]);
        d.due("pair without the second's", x.pair(v[0], v[1]), -1);
        d.due("pair without the first's", x.pair(v[1], v[0]), -1);
        x.need(f[1]);
        d.due("pair of the same", x.pair(v[0], v[0]), -1);
        d.due("pair with a constant", x.pair(v[0], c), -1);
        d.due("pair with a constant first", x.pair(c, v[0]), -1);
        for (int s : WILD) {
            d.due("pair(" + s + ", v)", x.pair(s, v[0]), -1);
            d.due("pair(v, " + s + ")", x.pair(v[0], s), -1);
        }
        d.due("pair(v1, v0)", x.pair(v[1], v[0]), 1);
        d.due("pair(v1, v0) again", x.pair(v[1], v[0]), -1);
        d.due("pair(v0, v1), the same", x.pair(v[0], v[1]), -1);
        x.need(f[2]);
        d.due("pair(v0, v2)", x.pair(v[0], v[2]), 2);
        d.due("pair(v1, v2)", x.pair(v[1], v[2]), 3);
        d.due("told(i, 2)", x.told(i, 2), 3);
        x.put(c);
        x.close();
        d.due("pair when it is closed", x.pair(v[0], v[1]), -1);
        int next = x.begin(2);
        d.due("the next assertion's floating ones are none yet", x.pair(v[0], v[1]), -1);
        x.need(f[0]);
        x.need(f[1]);
        d.due("the next assertion's pairs are its own", x.pair(v[0], v[1]), 1);
        d.due("told(next, 2)", x.told(next, 2), 1);
        d.due("told(i, 2) as before", x.told(i, 2), 3);
    }

    private static void promise7() {
        d.at("promise 7");
        StepPile x = new StepPile();
        int c = Telling.constant(x);
        int v = Telling.variable(x);
        d.due("close when none is open", x.close(), 0);
        x.begin(0);
        d.due("floating without symbols", x.close(), 0);
        x.put(c);
        d.due("floating with one", x.close(), 0);
        d.due("it is still open", x.told(0, 3), 0);
        x.put(v);
        d.due("floating with two", x.close(), 1);
        d.due("it is closed", x.told(0, 3), 1);
        d.due("close again", x.close(), 0);
        x.begin(1);
        d.due("essential without symbols", x.close(), 0);
        x.put(c);
        x.put(v);
        d.due("essential with a variable", x.close(), 1);
        x.begin(2);
        d.due("assertion without symbols", x.close(), 0);
        x.put(c);
        x.put(v);
        d.due("assertion whose variable has no floating one", x.close(), 0);
        d.due("it is still open", x.told(2, 3), 0);
        d.due("and keeps its symbols", x.told(2, 0), 2);
        x.need(0);
        d.due("assertion whose variable has one", x.close(), 1);
        x.begin(2);
        x.put(c);
        x.put(v);
        d.due("another assertion's floating one does not count", x.close(), 0);
    }

    private static void promise7FirstStatement() {
        d.at("promises 5 to 7, statement 0 is an assertion");
        StepPile x = new StepPile();
        int c = Telling.constant(x);
        int v = Telling.variable(x);
        int w = Telling.variable(x);
        d.due("begin(2)", x.begin(2), 0);
        d.due("need of itself", x.need(0), -1);
        d.due("pair without floating ones", x.pair(v, w), -1);
        x.put(c);
        x.put(v);
        d.due("close() without a floating one", x.close(), 0);
        d.due("begin when it is open", x.begin(0), -1);
    }

    private static void promise8() {
        d.at("promise 8");
        StepPile x = new StepPile();
        int c = Telling.constant(x);
        for (int k = 1; k < 40; k++) {
            Telling.variable(x);
        }
        d.due("apart of the same", x.apart(1, 1), 0);
        d.due("apart with a constant", x.apart(1, c), 0);
        d.due("apart with a constant first", x.apart(c, 1), 0);
        d.due("apart with none", x.apart(1, 40), 0);
        for (int s : WILD) {
            d.due("apart(1, " + s + ")", x.apart(1, s), 0);
            d.due("apart(" + s + ", 1)", x.apart(s, 1), 0);
            d.due("apart of no symbols", x.apart(s, s), 0);
        }
        d.due("apart(1, 2)", x.apart(1, 2), 1);
        d.due("apart(1, 2) again", x.apart(1, 2), 0);
        d.due("apart(2, 1)", x.apart(2, 1), 0);
        for (int s = 20; s < 30; s++) {
            for (int t = s + 1; t < 40; t++) {
                boolean turned = (s + t) % 2 == 0;
                d.due("apart of a new pair", turned ? x.apart(t, s) : x.apart(s, t), 1);
            }
        }
        d.due("apart(39, 20), as before", x.apart(39, 20), 0);
        d.due("apart(1, 3), not yet", x.apart(1, 3), 1);
    }

    private static void promise8EachTwo() {
        d.at("promise 8, each two");
        StepPile x = new StepPile();
        for (int k = 0; k < 31; k++) {
            Telling.variable(x);
        }
        for (int s = 0; s < 31; s++) {
            for (int t = 0; t < s; t++) {
                d.due("apart(" + s + ", " + t + ")", x.apart(s, t), 1);
            }
        }
        for (int s = 0; s < 15; s++) {
            d.due("apart again", x.apart(s, 30 - s), 0);
        }
    }

    private static void promise9Hypotheses() {
        d.at("promise 9, hypotheses");
        StepPile x = new StepPile();
        int c = Telling.constant(x);
        int v = Telling.variable(x);
        int f = Telling.floating(x, c, v);
        int e = Telling.essential(x, c, v, v);
        d.due("step(f)", x.step(f), 0);
        d.due("step(e)", x.step(e), 0);
        d.isTrue("row 0 is f", Telling.isRow(x, 0, c, v));
        d.isTrue("row 1 is e", Telling.isRow(x, 1, c, v, v));
        int open = x.begin(1);
        x.put(c);
        d.due("step of an open one", x.step(open), -1);
        d.due("step of none", x.step(open + 1), -1);
        for (int i : WILD) {
            d.due("step(" + i + ")", x.step(i), -1);
        }
        d.due("count(2): nothing is done", x.count(2), 2);
        d.due("step of a closed one while one is open", x.step(f), 0);
        x.close();
        d.due("step when it is closed", x.step(open), 0);
        d.due("count(2)", x.count(2), 4);
    }

    private static void promise9Floating() {
        d.at("promise 9, floating");
        StepPile x = new StepPile();
        int wff = Telling.constant(x);
        int set = Telling.constant(x);
        int imp = Telling.constant(x);
        int p = Telling.variable(x);
        int q = Telling.variable(x);
        int s = Telling.variable(x);
        int fp = Telling.floating(x, wff, p);
        int fq = Telling.floating(x, wff, q);
        int fs = Telling.floating(x, set, s);
        int a = Telling.assertion(x, Telling.needs(fp, fq), wff, p, imp, q, imp, p);
        int turned = Telling.assertion(x, Telling.needs(fq, fp), wff, p, imp, q);
        Telling.steps(x, fs, fq, fp, a);
        d.due("count(2)", x.count(2), 2);
        d.isTrue("p becomes q and q becomes p at once", Telling.isRow(x, 1, wff, q, imp, p, imp, q));
        d.isTrue("the row beneath stays", Telling.isRow(x, 0, set, s));
        Telling.steps(x, fp, turned);
        d.isTrue("the last hypothesis has the row on top",
                Telling.isRow(x, 1, wff, p, imp, q, imp, p, imp, q));
        d.due("too few rows of the type", x.step(a), 16);
        isEmpty(x);
        Telling.steps(x, fp);
        x.save();
        d.due("too few rows", x.step(a), 15);
        isEmpty(x);
        Telling.steps(x, fs, fp);
        d.due("a wrong type beneath", x.step(a), 16);
        isEmpty(x);
        Telling.steps(x, fp, fs);
        d.due("a wrong type on top", x.step(a), 16);
        isEmpty(x);
        int axiom = Telling.assertion(x, Telling.needs(), wff, imp);
        d.due("an assertion without hypotheses, on nothing", x.step(axiom), 0);
        d.isTrue("its symbols are put on", Telling.isRow(x, 0, wff, imp));
    }

    private static void promise9Essential() {
        d.at("promise 9, essential");
        StepPile x = new StepPile();
        int wff = Telling.constant(x);
        int proof = Telling.constant(x);
        int imp = Telling.constant(x);
        int p = Telling.variable(x);
        int q = Telling.variable(x);
        int fp = Telling.floating(x, wff, p);
        int fq = Telling.floating(x, wff, q);
        int min = Telling.essential(x, proof, p);
        int maj = Telling.essential(x, proof, p, imp, q);
        int mp = Telling.assertion(x, Telling.needs(fp, fq, min, maj), proof, q);
        int join = Telling.assertion(x, Telling.needs(fp, fq), wff, p, imp, q);
        int pp = Telling.essential(x, proof, p, imp, q, imp, p);
        int pq = Telling.essential(x, proof, p, imp, q);
        int longer = Telling.essential(x, proof, p, imp, q, imp, p, imp);
        Telling.steps(x, fp, fq, min, maj, mp);
        d.isTrue("as they are", Telling.isRow(x, 0, proof, q));
        x.clear();
        Telling.steps(x, fp, fq, join, fp, pq, pp, mp);
        d.due("count(2)", x.count(2), 1);
        d.isTrue("p is replaced by more", Telling.isRow(x, 0, proof, p));
        x.clear();
        Telling.steps(x, fp, fq, join, fp, pq, longer);
        d.due("a row that is longer", x.step(mp), 16);
        Telling.steps(x, fp, fq, join, fp, pq, maj);
        d.due("a row that is shorter", x.step(mp), 16);
        Telling.steps(x, fp, fq, maj, min);
        d.due("rows in the wrong order", x.step(mp), 16);
        Telling.steps(x, fq, fp, min, maj);
        d.due("floating rows in the wrong order", x.step(mp), 16);
        Telling.steps(x, fp, fq, fp, maj);
        d.due("another constant first", x.step(mp), 16);
        isEmpty(x);
    }

    private static void promise9EmptyRest() {
        d.at("promise 9, nothing behind the type");
        StepPile x = new StepPile();
        int c = Telling.constant(x);
        int k = Telling.constant(x);
        int v = Telling.variable(x);
        int w = Telling.variable(x);
        int fv = Telling.floating(x, c, v);
        int fw = Telling.floating(x, c, w);
        int e = Telling.essential(x, k, v, w, v);
        int bare = Telling.essential(x, c);
        int one = Telling.essential(x, k, w);
        int none = Telling.essential(x, k);
        int a = Telling.assertion(x, Telling.needs(fv, fw, e), c, v, w, v, k);
        x.begin(2);
        x.need(fv);
        x.need(fw);
        x.pair(v, w);
        x.put(k);
        x.put(v);
        x.close();
        int paired = x.count(1) - 1;
        Telling.steps(x, bare, bare, none, a);
        d.isTrue("both become nothing", Telling.isRow(x, 0, c, k));
        Telling.steps(x, bare, fw, one, a);
        d.isTrue("one becomes nothing", Telling.isRow(x, 1, c, w, k));
        Telling.steps(x, bare, fw);
        d.due("what is nothing is apart from all", x.step(paired), 0);
        d.isTrue("a row of one symbol", Telling.isRow(x, 2, k));
        Telling.steps(x, bare, bare, one);
        d.due("one symbol too many", x.step(a), 16);
    }

    /** What a hypothesis becomes is longer than the row on top, wherever the pile's symbols end. */
    private static void promise9ShortRowOnTop() {
        d.at("promise 9, a short row on top");
        for (int under = 0; under <= 120; under++) {
            StepPile x = new StepPile();
            int c = Telling.constant(x);
            int v = Telling.variable(x);
            int f = Telling.floating(x, c, v);
            int e = Telling.essential(x, c, v);
            int five = Telling.assertion(x, Telling.needs(f), c, v, v, v, v, v);
            int bare = Telling.essential(x, c);
            int a = Telling.assertion(x, Telling.needs(f, e), c, v);
            for (int n = 0; n < under; n++) {
                Telling.steps(x, bare);
            }
            Telling.steps(x, f, five, bare);
            d.due("step(a) on " + (under + 7) + " symbols", x.step(a), 16);
            isEmpty(x);
        }
    }

    private static int paired(StepPile x, int c, int[] floating, int[] variables) {
        x.begin(2);
        for (int f : floating) {
            x.need(f);
        }
        x.pair(variables[0], variables[1]);
        x.put(c);
        for (int v : variables) {
            x.put(v);
        }
        x.close();
        return x.count(1) - 1;
    }

    private static void promise9Pairs() {
        d.at("promise 9, pairs");
        StepPile x = new StepPile();
        int c = Telling.constant(x);
        int[] v = {Telling.variable(x), Telling.variable(x), Telling.variable(x), Telling.variable(x)};
        int[] f = new int[4];
        for (int k = 0; k < 4; k++) {
            f[k] = Telling.floating(x, c, v[k]);
        }
        int a = paired(x, c, f, v);
        int left = Telling.essential(x, c, v[0], c, v[2], v[0]);
        int right = Telling.essential(x, c, c, v[1], v[3]);
        Telling.steps(x, f[0], f[0], f[1], f[2]);
        d.due("the same in both", x.step(a), 17);
        isEmpty(x);
        Telling.steps(x, f[0], f[1], f[0], f[0]);
        d.due("not apart", x.step(a), 17);
        x.apart(v[1], v[0]);
        Telling.steps(x, f[0], f[1], f[0], f[0]);
        d.due("apart; the others are no pair", x.step(a), 0);
        d.isTrue("the new row", Telling.isRow(x, 0, c, v[0], v[1], v[0], v[0]));
        x.clear();
        Telling.steps(x, f[1], f[0], f[2], f[2]);
        d.due("apart the other way round", x.step(a), 0);
        x.apart(v[0], v[3]);
        x.apart(v[2], v[1]);
        Telling.steps(x, left, right, f[0], f[0]);
        d.due("v2 and v3 are not apart", x.step(a), 17);
        x.apart(v[3], v[2]);
        Telling.steps(x, left, right, f[0], f[0]);
        d.due("all are apart", x.step(a), 0);
        int both = Telling.essential(x, c, v[1], v[2]);
        Telling.steps(x, left, both, f[0], f[0]);
        d.due("v2 in both", x.step(a), 17);
        int constants = Telling.essential(x, c, c, c);
        Telling.steps(x, constants, constants, f[0], f[0]);
        d.due("constants need not be apart", x.step(a), 0);
        Telling.steps(x, f[0], f[3], f[2], f[2]);
        d.due("the pair's own variables do not matter", x.step(a), 0);
    }

    private static void promise9FaultOrder() {
        d.at("promise 9, the first fault");
        StepPile x = new StepPile();
        int c = Telling.constant(x);
        int k = Telling.constant(x);
        int v = Telling.variable(x);
        int w = Telling.variable(x);
        int[] f = {Telling.floating(x, c, v), Telling.floating(x, c, w)};
        int e = Telling.essential(x, k, v);
        x.begin(2);
        x.need(f[0]);
        x.need(f[1]);
        x.need(e);
        x.pair(v, w);
        x.put(c);
        for (int n = 0; n < 250; n++) {
            x.put(v);
        }
        x.close();
        int a = x.count(1) - 1;
        int five = Telling.essential(x, c, v, v, v, v, v);
        int kfive = Telling.essential(x, k, v, v, v, v, v);
        Telling.steps(x, five, five);
        d.due("too few, before all others", x.step(a), 15);
        Telling.steps(x, five, five, e);
        d.due("no fit, before not apart", x.step(a), 16);
        Telling.steps(x, five, five, kfive);
        d.due("not apart, before too long", x.step(a), 17);
        Telling.steps(x, five, f[1], kfive);
        d.due("not apart, before too long", x.step(a), 17);
        x.apart(v, w);
        Telling.steps(x, five, f[1], kfive);
        d.due("too long", x.step(a), 5);
        isEmpty(x);
        d.due("symbols and statements stay", x.count(0) * 1000 + x.count(1), 4006);
        d.due("apart stays", x.apart(v, w), 0);
    }

    private static void promise9ManyRows() {
        d.at("promise 9, rows beneath");
        StepPile x = new StepPile();
        int c = Telling.constant(x);
        int v = Telling.variable(x);
        int f = Telling.floating(x, c, v);
        int twice = Telling.assertion(x, Telling.needs(f), c, v, v);
        for (int row = 0; row < 8; row++) {
            Telling.steps(x, f);
            for (int k = 0; k < row; k++) {
                Telling.steps(x, twice);
            }
        }
        for (int row = 0; row < 8; row++) {
            d.due("length(" + row + ")", x.length(row), 1 + (1 << row));
        }
        d.due("count(4)", x.count(4), 8 + 255);
    }

    private static void promise9VariableZero() {
        d.at("promise 9, symbol 0 is a variable");
        StepPile x = new StepPile();
        int v = Telling.variable(x);
        int w = Telling.variable(x);
        int c = Telling.constant(x);
        int[] f = {Telling.floating(x, c, v), Telling.floating(x, c, w)};
        int a = paired(x, c, f, new int[] {v, w});
        d.due("told(a, 2)", x.told(a, 2), 1);
        Telling.steps(x, f[1], f[0]);
        d.due("not apart", x.step(a), 17);
        d.due("apart(w, v)", x.apart(w, v), 1);
        Telling.steps(x, f[1], f[0]);
        d.due("apart", x.step(a), 0);
        d.isTrue("the new row", Telling.isRow(x, 0, c, w, v));
    }

    private static void promise10() {
        d.at("promise 10");
        StepPile x = new StepPile();
        int c = Telling.constant(x);
        int v = Telling.variable(x);
        int f = Telling.floating(x, c, v);
        int e = Telling.essential(x, c, c, c);
        d.due("save() of nothing", x.save(), -1);
        Telling.steps(x, f);
        d.due("save()", x.save(), 0);
        d.due("the pile stays", x.count(2), 1);
        Telling.steps(x, e);
        d.due("save()", x.save(), 1);
        d.due("save() of the same row", x.save(), 2);
        d.due("count(3)", x.count(3), 3);
        d.due("count(4)", x.count(4), 2 + 3 + 2 + 3 + 3);
        int id = Telling.assertion(x, Telling.needs(f), c, v, c);
        Telling.steps(x, id);
        d.due("again(1)", x.again(1), 0);
        d.isTrue("a saved row does not change", Telling.isRow(x, 2, c, c, c));
    }

    private static void promise11() {
        d.at("promise 11");
        StepPile x = new StepPile();
        int c = Telling.constant(x);
        int v = Telling.variable(x);
        int f = Telling.floating(x, c, v);
        int e = Telling.essential(x, c, c, c);
        d.due("again(0) of nothing", x.again(0), -1);
        Telling.steps(x, f);
        x.save();
        Telling.steps(x, e);
        x.save();
        d.due("again(2)", x.again(2), -1);
        for (int k : WILD) {
            d.due("again(" + k + ")", x.again(k), -1);
        }
        d.due("again(0)", x.again(0), 0);
        d.due("again(1)", x.again(1), 0);
        d.due("again(1) once more", x.again(1), 0);
        d.due("count(2)", x.count(2), 5);
        d.isTrue("row 2", Telling.isRow(x, 2, c, v));
        d.isTrue("row 4", Telling.isRow(x, 4, c, c, c));
        d.due("count(3) stays", x.count(3), 2);
        int a = Telling.assertion(x, Telling.needs(f), c, v, v);
        d.due("a step takes it like another row", x.step(a), 0);
        d.isTrue("row 4", Telling.isRow(x, 4, c, c, c, c, c));
    }

    private static void promise12() {
        d.at("promise 12");
        StepPile x = new StepPile();
        int c = Telling.constant(x);
        int e = Telling.essential(x, c);
        d.due("clear() of nothing", x.clear(), 0);
        Telling.steps(x, e, e, e);
        x.save();
        x.begin(1);
        d.due("clear()", x.clear(), 3);
        isEmpty(x);
        d.due("statements stay", x.count(1), 2);
        d.due("the open one stays open", x.put(c), 1);
        d.due("clear() again", x.clear(), 0);
        Telling.steps(x, e);
        d.due("save() counts from 0 again", x.save(), 0);
    }

    private static void promise13() {
        d.at("promise 13");
        StepPile x = new StepPile();
        int c = Telling.constant(x);
        int v = Telling.variable(x);
        int f = Telling.floating(x, c, v);
        int e = Telling.essential(x, c, v, v);
        Telling.essential(x, c);
        x.begin(0);
        Telling.steps(x, f, e);
        x.save();
        x.save();
        x.save();
        d.due("count(0)", x.count(0), 2);
        d.due("count(1)", x.count(1), 4);
        d.due("count(2)", x.count(2), 2);
        d.due("count(3)", x.count(3), 3);
        d.due("count(4)", x.count(4), 5 + 9);
        d.due("count(5)", x.count(5), -1);
        for (int what : WILD) {
            d.due("count(" + what + ")", x.count(what), -1);
        }
    }

    private static void promise14And15() {
        d.at("promises 14 and 15");
        StepPile x = new StepPile();
        int c = Telling.constant(x);
        int v = Telling.variable(x);
        int e = Telling.essential(x, c, v, c, v);
        int f = Telling.essential(x, c, c);
        Telling.steps(x, e, f);
        d.due("length(0)", x.length(0), 4);
        d.due("length(1)", x.length(1), 2);
        d.due("length(2)", x.length(2), -1);
        int[] text = {c, v, c, v};
        for (int k = 0; k < 4; k++) {
            d.due("at(0, " + k + ")", x.at(0, k), text[k]);
        }
        d.due("at(0, 4), which is row 1's", x.at(0, 4), -1);
        d.due("at(1, 0)", x.at(1, 0), c);
        d.due("at(1, 2)", x.at(1, 2), -1);
        d.due("at(1, -1), which is row 0's", x.at(1, -1), -1);
        d.due("at(2, 0)", x.at(2, 0), -1);
        for (int n : WILD) {
            d.due("length(" + n + ")", x.length(n), -1);
            d.due("at(" + n + ", 0)", x.at(n, 0), -1);
            d.due("at(0, " + n + ")", x.at(0, n), -1);
            d.due("at of both", x.at(n, n), -1);
        }
        x.clear();
        d.due("length(0) of nothing", x.length(0), -1);
        d.due("at(0, 0) of nothing", x.at(0, 0), -1);
    }

    private static void promise16() {
        d.at("promise 16");
        StepPile x = new StepPile();
        int c = Telling.constant(x);
        int v = Telling.variable(x);
        int w = Telling.variable(x);
        int[] f = {Telling.floating(x, c, v), Telling.floating(x, c, w)};
        int e = Telling.essential(x, c, c, c, c);
        int a = paired(x, c, f, new int[] {v, w});
        int b = x.begin(2);
        x.need(e);
        x.put(c);
        int[][] due = {{2, 0, 0, 1, 0}, {2, 0, 0, 1, 0}, {4, 0, 0, 1, 1}, {3, 2, 1, 1, 2}, {1, 1, 0, 0, 2}};
        d.due("a", a, 3);
        d.due("b", b, 4);
        for (int i = 0; i < due.length; i++) {
            for (int what = 0; what < 5; what++) {
                d.due("told(" + i + ", " + what + ")", x.told(i, what), due[i][what]);
            }
            d.due("told(" + i + ", 5)", x.told(i, 5), -1);
        }
        d.due("told(5, 0)", x.told(5, 0), -1);
        for (int n : WILD) {
            d.due("told(" + n + ", 0)", x.told(n, 0), -1);
            d.due("told(0, " + n + ")", x.told(0, n), -1);
        }
    }

    private static void promise17() {
        d.at("promise 17");
        StepPile x = new StepPile();
        int c = Telling.constant(x);
        int k = Telling.constant(x);
        int v = Telling.variable(x);
        int f = Telling.floating(x, c, v);
        int e = Telling.essential(x, c, v, k);
        int g = Telling.essential(x, c, k);
        int a = Telling.assertion(x, Telling.needs(f), c, v, k);
        Telling.steps(x, f, a, g);
        d.due("is(0, e)", x.is(0, e), 1);
        d.due("is(0, a)", x.is(0, a), 1);
        d.due("is(0, f), which it begins with", x.is(0, f), 0);
        d.due("is(1, e)", x.is(1, e), 0);
        d.due("is(1, f), of the same length", x.is(1, f), 0);
        d.due("is(1, g)", x.is(1, g), 1);
        d.due("is(2, g)", x.is(2, g), -1);
        int open = x.begin(1);
        d.due("is of an open one without symbols", x.is(1, open), 0);
        x.put(c);
        d.due("is of an open one, too short", x.is(1, open), 0);
        x.put(k);
        d.due("is of an open one", x.is(1, open), 1);
        d.due("is of none", x.is(1, open + 1), -1);
        for (int n : WILD) {
            d.due("is(" + n + ", 0)", x.is(n, 0), -1);
            d.due("is(0, " + n + ")", x.is(0, n), -1);
        }
    }

    private static void promise18() {
        d.at("promise 18");
        StepPile x = new StepPile();
        d.due("check() of nothing", x.check(), 1);
        int c = Telling.constant(x);
        int v = Telling.variable(x);
        int f = Telling.floating(x, c, v);
        int bare = Telling.essential(x, c);
        int a = Telling.assertion(x, Telling.needs(f), c, v);
        Telling.steps(x, f, bare, f, a, bare, a);
        d.due("check()", x.check(), 1);
        x.save();
        x.again(0);
        d.due("check()", x.check(), 1);
        x.clear();
        d.due("check() when cleared", x.check(), 1);
    }
}
