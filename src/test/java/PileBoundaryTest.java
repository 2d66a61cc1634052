/** Each sentence of promises 9 to 18 that names a boundary case, with a test of its own. */
public final class PileBoundaryTest {
    private static final int NONE = Run.NONE;
    private static final Due d = new Due();

    private PileBoundaryTest() {
    }

    public static void main(String[] args) {
        stepOfNoSuchStatement();
        stepOfAnOpenStatement();
        stepOfEachKind();
        stepWithTooFewRows();
        saveOfNothing();
        saveWhen300AreSaved();
        saveOfMoreThan40000();
        saveOfOneMoreThan40000();
        saveWhen300AreSavedAndTooMuch();
        saveKeepsTheRow();
        againOfNoneSuch();
        againOnto200Rows();
        againOfMoreThan40000();
        againOfOneMoreThan40000();
        againOfTheFirstAndTheLast();
        clearOfNothing();
        clearOfAFullPile();
        clearKeepsTheRest();
        countOfOthers();
        countOfNothing();
        countOfAll();
        lengthOfNoneSuch();
        lengthOfTheLeastAndTheMost();
        lengthFromTheUndermost();
        atOfNoneSuchRow();
        atOfNoneSuchSymbol();
        atOfALongRow();
        toldOfNoSuchStatement();
        toldOfNoSuchWhat();
        toldOfTheOpenOne();
        toldOfTheMost();
        isOfNoSuchRow();
        isOfNoSuchStatement();
        isOfNearlyTheSame();
        isOfAnOpenStatement();
        isOf300();
        checkOfNothing();
        checkOfAFullPile();
        checkOfTheShortestRows();
        checkAfterFaults();
        d.end();
    }

    private static Run run(String sentence) {
        return new Run(d, sentence);
    }

    private static Run growing(String sentence) {
        return Growing.run(d, sentence);
    }

    /** A run whose constant is 0 and whose statement 0 is an essential hypothesis of it. */
    private static Run bare(String sentence) {
        Run r = run(sentence);
        r.essential(r.constant());
        return r;
    }

    private static void stepOfNoSuchStatement() {
        Run r = bare("promise 9: NONE when there is no such statement");
        r.keeps(() -> r.step(1, NONE));
        r.step(0, 0);
        r.save(0);
        r.keeps(() -> r.step(1, NONE));
        for (int i : Run.WRONG) {
            r.keeps(() -> r.step(i, NONE));
        }
        r.again(0, 0);
    }

    private static void stepOfAnOpenStatement() {
        for (int kind = 0; kind < 3; kind++) {
            Run r = bare("promise 9: the step of a closed statement; NONE for the open one, kind " + kind);
            int v = r.variable();
            int f = r.floating(0, v);
            r.step(0, 0);
            r.save(0);
            r.begin(kind, 2);
            r.keeps(() -> r.step(2, NONE));
            r.put(0, 1);
            r.keeps(() -> r.step(2, NONE));
            if (kind == 2) {
                r.need(f, 1);
            }
            r.put(v, 2);
            r.keeps(() -> r.step(2, NONE));
            r.step(0, 0);
            r.close(1);
            r.step(2, 0);
        }
    }

    private static void stepOfEachKind() {
        Run r = run("promise 9: Makes the step: 0, for the shortest statements of each kind");
        int c = r.constant();
        int v = r.variable();
        int f = r.floating(c, v);
        int e = r.essential(c);
        int a = r.assertion(Run.needs(), c);
        r.steps(f, e, a);
        r.row(0, c, v);
        r.row(1, c);
        r.row(2, c);
        r.count(2, 3);
    }

    private static void stepWithTooFewRows() {
        Run r = run("promise 9: or its fault: on no row, on one row less, on just as many");
        int c = r.constant();
        int e = r.essential(c);
        int g = r.essential(c);
        int one = r.assertion(Run.needs(e), c, c);
        int two = r.assertion(Run.needs(e, g), c, c);
        r.step(one, 15);
        r.empty();
        r.step(e, 0);
        r.step(two, 15);
        r.empty();
        r.step(e, 0);
        r.step(one, 0);
        r.clear(1);
        r.steps(e, e);
        r.step(two, 0);
        r.row(0, c, c);
        r.count(2, 1);
    }

    private static void saveOfNothing() {
        Run r = bare("promise 10: NONE when there is none");
        r.keeps(() -> r.save(NONE));
        r.step(0, 0);
        r.save(0);
        r.clear(1);
        r.keeps(() -> r.save(NONE));
        int a = r.assertion(Run.needs(0), 0);
        r.step(a, 15);
        r.keeps(() -> r.save(NONE));
    }

    private static void saveWhen300AreSaved() {
        Run r = bare("promise 10: its number, from 0; NONE when 300 are saved");
        r.step(0, 0);
        for (int n = 0; n < 300; n++) {
            r.save(n);
        }
        r.keeps(() -> r.save(NONE));
        r.step(0, 0);
        r.keeps(() -> r.save(NONE));
        r.count(3, 300);
        r.count(4, 302);
        r.again(299, 0);
        r.again(300, NONE);
        r.clear(3);
        r.step(0, 0);
        r.save(0);
    }

    private static void saveOfMoreThan40000() {
        Run r = growing("promise 10: 5, and pile and saved rows are empty, when there would be more than 40000 symbols");
        Growing.fill(r, 1, 39000);
        r.save(1);
        r.count(4, 40000);
        r.save(5);
        r.empty();
        r.save(NONE);
        r.step(Growing.BARE, 0);
        r.save(0);
    }

    private static void saveOfOneMoreThan40000() {
        Run r = growing("promise 10: 5 when there would be more than 40000 symbols, by one");
        Growing.fill(r, 30, 39998);
        r.step(Growing.BARE, 0);
        r.save(30);
        r.count(4, 40000);
        r.save(5);
        r.empty();
        Growing.fill(r, 30, 39001);
        r.step(Growing.FLOATING, 0);
        Growing.grow(r, 499);
        r.count(4, 39502);
        r.save(5);
        r.empty();
        Growing.fill(r, 30, 39002);
        Growing.grow(r, 499);
        r.count(4, 39501);
        r.save(30);
        r.count(4, 40000);
        r.count(3, 31);
    }

    /** 300 are saved, and the row on top would make more than 40000: the first of both is answered. */
    private static void saveWhen300AreSavedAndTooMuch() {
        Run r = growing("promise 10: NONE when 300 are saved, too where there would be more than 40000 symbols");
        Growing.grow(r, 130);
        for (int n = 0; n < 300; n++) {
            r.save(n);
        }
        r.count(4, 301 * 130);
        Growing.grow(r, 500);
        r.keeps(() -> r.save(NONE));
        r.count(4, 301 * 130 + 500);
    }

    private static void saveKeepsTheRow() {
        Run r = run("promise 10: The row on top of the pile is saved, and stays as it was");
        int c = r.constant();
        int v = r.variable();
        int f = r.floating(c, v);
        int a = r.assertion(Run.needs(f), c);
        r.step(f, 0);
        r.save(0);
        r.row(0, c, v);
        r.step(a, 0);
        r.save(1);
        r.again(0, 0);
        r.again(1, 0);
        r.row(0, c);
        r.row(1, c, v);
        r.row(2, c);
    }

    private static void againOfNoneSuch() {
        Run r = bare("promise 11: NONE when there is none such");
        r.keeps(() -> r.again(0, NONE));
        r.step(0, 0);
        r.keeps(() -> r.again(0, NONE));
        r.save(0);
        r.keeps(() -> r.again(1, NONE));
        for (int k : Run.WRONG) {
            r.keeps(() -> r.again(k, NONE));
        }
        r.again(0, 0);
        r.clear(2);
        r.keeps(() -> r.again(0, NONE));
    }

    private static void againOnto200Rows() {
        Run r = bare("promise 11: 5, as in a step: the pile more than 200 rows");
        r.step(0, 0);
        r.save(0);
        r.againTimes(0, 199);
        r.count(2, 200);
        r.keeps(() -> r.again(1, NONE));
        r.again(0, 5);
        r.empty();
    }

    private static void againOfMoreThan40000() {
        Run r = growing("promise 11: 5, as in a step: more than 40000 symbols");
        Growing.fill(r, 1, 39000);
        r.again(0, 0);
        r.count(4, 40000);
        r.check(1);
        r.again(0, 5);
        r.empty();
    }

    private static void againOfOneMoreThan40000() {
        Run r = growing("promise 11: 5, as in a step: more than 40000 symbols, by one");
        Growing.fill(r, 2, 39001);
        r.again(1, 5);
        r.empty();
        Growing.fill(r, 2, 39000);
        r.step(Growing.BARE, 0);
        r.again(0, 5);
        r.empty();
        Growing.fill(r, 1, 39996);
        r.step(Growing.BARE, 0);
        r.save(1);
        r.count(4, 39998);
        r.again(1, 0);
        r.again(1, 0);
        r.count(4, 40000);
        r.again(1, 5);
        r.empty();
    }

    private static void againOfTheFirstAndTheLast() {
        Run r = run("promise 11: Saved row k is put on the pile, the first and the last of them");
        int[] c = {r.constant(), r.constant(), r.constant()};
        int[] e = {r.essential(c[0]), r.essential(c[1], c[0]), r.essential(c[2], c[1], c[0])};
        for (int n = 0; n < 3; n++) {
            r.step(e[n], 0);
            r.save(n);
        }
        r.again(0, 0);
        r.again(2, 0);
        r.again(1, 0);
        r.again(3, NONE);
        r.is(3, e[0], 1);
        r.is(4, e[2], 1);
        r.is(5, e[1], 1);
        r.count(3, 3);
        r.count(4, 18);
    }

    private static void clearOfNothing() {
        Run r = bare("promise 12: how many rows the pile had: none");
        r.clear(0);
        r.step(0, 0);
        r.clear(1);
        r.clear(0);
        r.empty();
    }

    private static void clearOfAFullPile() {
        Run r = bare("promise 12: how many rows the pile had: 200");
        r.stepTimes(0, 200);
        r.save(0);
        r.clear(200);
        r.empty();
        r.stepTimes(0, 200);
        r.clear(200);
    }

    private static void clearKeepsTheRest() {
        Run r = run("promise 12: The pile and what is saved are empty, and nothing else");
        int c = r.constant();
        int v = r.variable();
        int w = r.variable();
        r.apart(v, w, 1);
        int f = r.floating(c, v);
        r.openAssertion(f);
        r.put(c, 1);
        r.step(f, 0);
        r.save(0);
        r.clear(1);
        r.empty();
        r.count(0, 3);
        r.count(1, 2);
        r.apart(v, w, 0);
        r.told(1, 0, 1);
        r.told(1, 1, 1);
        r.told(1, 3, 0);
        r.put(v, 2);
    }

    private static void countOfOthers() {
        Run r = bare("promise 13: NONE for others");
        r.step(0, 0);
        for (int what : Run.WRONG) {
            r.keeps(() -> r.count(what, NONE));
        }
        r.count(5, NONE);
        r.count(6, NONE);
    }

    private static void countOfNothing() {
        Run r = bare("promise 13: how many there are: none");
        r.count(2, 0);
        r.count(3, 0);
        r.count(4, 0);
        r.begin(1, 1);
        r.count(1, 2);
        r.symbol(2, NONE);
        r.count(0, 1);
    }

    private static void countOfAll() {
        Run r = growing("promise 13: symbols of all rows on the pile and saved: a row that is saved counts twice");
        r.count(0, 2);
        r.count(1, Growing.STATEMENTS);
        r.step(Growing.FLOATING, 0);
        r.count(4, 2);
        r.save(0);
        r.count(4, 4);
        r.again(0, 0);
        r.count(4, 6);
        r.step(Growing.TWICE, 0);
        r.count(4, 7);
        r.count(2, 2);
        r.count(3, 1);
    }

    private static void lengthOfNoneSuch() {
        Run r = bare("promise 14: NONE when there is none such");
        r.length(0, NONE);
        r.steps(0, 0, 0);
        r.length(2, 1);
        r.length(3, NONE);
        for (int row : Run.WRONG) {
            r.keeps(() -> r.length(row, NONE));
        }
        int a = r.assertion(Run.needs(0), 0, 0);
        r.step(a, 0);
        r.length(2, 2);
        r.length(3, NONE);
        r.clear(3);
        r.length(0, NONE);
    }

    private static void lengthOfTheLeastAndTheMost() {
        Run r = growing("promise 14: How many symbols a row has: 1 and 1000");
        Growing.grow(r, 1);
        Growing.grow(r, 1000);
        Growing.grow(r, 1);
        r.length(0, 1);
        r.length(1, 1000);
        r.length(2, 1);
    }

    private static void lengthFromTheUndermost() {
        Run r = growing("promise 14: counted from 0, the undermost, to 199");
        Growing.grow(r, 3);
        r.stepTimes(Growing.BARE, 198);
        r.step(Growing.FLOATING, 0);
        r.length(0, 3);
        r.length(1, 1);
        r.length(198, 1);
        r.length(199, 2);
        r.length(200, NONE);
    }

    private static void atOfNoneSuchRow() {
        Run r = bare("promise 15: NONE when there is none such row");
        r.at(0, 0, NONE);
        r.steps(0, 0);
        r.at(1, 0, 0);
        r.at(2, 0, NONE);
        r.at(2, -1, NONE);
        for (int row : Run.WRONG) {
            r.at(row, 0, NONE);
            r.at(row, row, NONE);
        }
        r.clear(2);
        r.at(0, 0, NONE);
        r.at(1, 0, NONE);
    }

    private static void atOfNoneSuchSymbol() {
        Run r = run("promise 15: NONE when there is none such symbol of the row");
        int c = r.constant();
        int v = r.variable();
        int f = r.floating(c, v);
        r.steps(f, f, f);
        for (int row = 0; row < 3; row++) {
            r.at(row, -1, NONE);
            r.at(row, 0, c);
            r.at(row, 1, v);
            r.at(row, 2, NONE);
            for (int k : Run.WRONG) {
                r.at(row, k, NONE);
            }
        }
        int shorter = r.assertion(Run.needs(f), c);
        r.step(shorter, 0);
        r.at(2, 0, c);
        r.at(2, 1, NONE);
    }

    private static void atOfALongRow() {
        Run r = growing("promise 15: Symbol k of a row, the last one of 1000");
        Growing.grow(r, 999);
        r.step(Growing.ONE_MORE, 0);
        Growing.grow(r, 2);
        r.at(0, 0, Growing.C);
        r.at(0, 1, Growing.V);
        r.at(0, 999, Growing.C);
        r.at(0, 1000, NONE);
        r.at(0, 1001, NONE);
        r.at(1, 1, Growing.V);
        r.at(1, 2, NONE);
    }

    private static void toldOfNoSuchStatement() {
        Run r = run("promise 16: NONE when there is no such statement");
        for (int what = 0; what < 5; what++) {
            r.told(0, what, NONE);
        }
        int c = r.constant();
        r.essential(c);
        for (int what = 0; what < 5; what++) {
            r.told(1, what, NONE);
            for (int i : Run.WRONG) {
                r.told(i, what, NONE);
            }
        }
        r.begin(1, 1);
        r.told(1, 0, 0);
        r.told(2, 0, NONE);
    }

    private static void toldOfNoSuchWhat() {
        Run r = bare("promise 16: NONE when there is no such what");
        r.told(0, 4, 1);
        r.told(0, 5, NONE);
        r.told(0, 6, NONE);
        r.begin(2, 1);
        for (int what : Run.WRONG) {
            r.told(0, what, NONE);
            r.told(1, what, NONE);
            r.told(what, what, NONE);
        }
        r.told(1, 5, NONE);
    }

    private static void toldOfTheOpenOne() {
        Run r = run("promise 16: whether it is closed (3: 1, else 0)");
        int c = r.constant();
        int v = r.variable();
        r.begin(0, 0);
        r.told(0, 3, 0);
        r.told(0, 0, 0);
        r.put(c, 1);
        r.told(0, 0, 1);
        r.close(0);
        r.told(0, 3, 0);
        r.put(v, 2);
        r.told(0, 3, 0);
        r.close(1);
        r.told(0, 3, 1);
        r.begin(1, 1);
        r.told(0, 3, 1);
        r.told(1, 3, 0);
    }

    private static void toldOfTheMost() {
        Run r = run("promise 16: How many symbols, mandatory hypotheses, pairs: none, and many");
        int c = r.constant();
        int[] f = new int[10];
        for (int n = 0; n < 10; n++) {
            f[n] = r.floating(c, r.variable());
        }
        int a = r.openAssertion(f);
        for (int n = 1; n < 10; n++) {
            r.told(a, 2, n - 1);
            r.pair(n, n + 1, n);
        }
        for (int n = 1; n <= 300; n++) {
            r.put(c, n);
        }
        r.close(1);
        r.told(a, 0, 300);
        r.told(a, 1, 10);
        r.told(a, 2, 9);
        int b = r.assertion(Run.needs(), c);
        r.told(b, 0, 1);
        r.told(b, 1, 0);
        r.told(b, 2, 0);
        r.told(f[9], 0, 2);
        r.told(f[9], 1, 0);
        r.told(f[9], 2, 0);
    }

    private static void isOfNoSuchRow() {
        Run r = bare("promise 17: NONE when there is no such row");
        r.is(0, 0, NONE);
        r.step(0, 0);
        r.is(0, 0, 1);
        r.is(1, 0, NONE);
        for (int row : Run.WRONG) {
            r.is(row, 0, NONE);
            r.is(row, row, NONE);
        }
        r.clear(1);
        r.is(0, 0, NONE);
    }

    private static void isOfNoSuchStatement() {
        Run r = bare("promise 17: NONE when there is no such statement");
        r.step(0, 0);
        r.is(0, 1, NONE);
        for (int i : Run.WRONG) {
            r.is(0, i, NONE);
        }
        r.begin(1, 1);
        r.is(0, 1, 0);
        r.is(0, 2, NONE);
    }

    private static void isOfNearlyTheSame() {
        Run r = run("promise 17: Whether a row of the pile is a statement's symbols: 1, 0");
        int c = r.constant();
        int k = r.constant();
        int v = r.variable();
        int[] good = {c, v, k, v};
        int e = r.essential(good);
        int shorter = r.essential(c, v, k);
        int longer = r.essential(c, v, k, v, v);
        int first = r.essential(k, v, k, v);
        int last = r.essential(c, v, k, k);
        int between = r.essential(c, v, c, v);
        int same = r.essential(good);
        r.steps(longer, e, shorter);
        r.is(1, e, 1);
        r.is(1, same, 1);
        for (int i : new int[] {shorter, longer, first, last, between}) {
            r.is(1, i, 0);
        }
        r.is(0, longer, 1);
        r.is(0, e, 0);
        r.is(2, shorter, 1);
        r.is(2, e, 0);
    }

    private static void isOfAnOpenStatement() {
        Run r = run("promise 17: a statement's symbols, of the open one as far as it is told");
        int c = r.constant();
        int v = r.variable();
        int f = r.floating(c, v);
        r.step(f, 0);
        r.begin(1, 1);
        r.is(0, 1, 0);
        r.put(c, 1);
        r.is(0, 1, 0);
        r.put(v, 2);
        r.is(0, 1, 1);
        r.put(v, 3);
        r.is(0, 1, 0);
    }

    private static void isOf300() {
        Run r = growing("promise 17: a row of 300 symbols and one of 301, and a statement of 300");
        r.begin(1, Growing.STATEMENTS);
        r.put(Growing.C, 1);
        for (int n = 2; n < 300; n++) {
            r.put(Growing.V, n);
        }
        r.put(Growing.C, 300);
        r.close(1);
        r.step(Growing.STATEMENTS, 0);
        r.is(0, Growing.STATEMENTS, 1);
        r.step(Growing.ONE_MORE, 0);
        r.length(0, 301);
        r.is(0, Growing.STATEMENTS, 0);
        Growing.grow(r, 300);
        r.is(1, Growing.STATEMENTS, 0);
    }

    private static void checkOfNothing() {
        Run r = bare("promise 18: 1, when there is no row");
        r.check(1);
        r.step(0, 0);
        r.clear(1);
        r.check(1);
    }

    private static void checkOfAFullPile() {
        Run r = growing("promise 18: 1, with 200 rows, and with 40000 symbols");
        r.stepTimes(Growing.BARE, 100);
        r.stepTimes(Growing.FLOATING, 100);
        r.check(1);
        r.clear(200);
        Growing.fill(r, 1, 40000);
        r.check(1);
    }

    private static void checkOfTheShortestRows() {
        Run r = run("promise 18: each row on the pile begins with a constant, the shortest ones too");
        int v = r.variable();
        int c = r.constant();
        int f = r.floating(c, v);
        int bare = r.essential(c);
        int a = r.assertion(Run.needs(f), c, v);
        r.steps(bare, f, a, bare, a);
        r.check(1);
        r.save(0);
        r.again(0, 0);
        r.check(1);
        r.count(2, 4);
    }

    private static void checkAfterFaults() {
        Run r = growing("promise 18: 1, behind each fault and on what comes next");
        r.step(Growing.TWICE, 15);
        r.check(1);
        Growing.grow(r, 1000);
        r.step(Growing.TWICE, 5);
        r.check(1);
        Growing.fill(r, 1, 40000);
        r.save(5);
        r.check(1);
        r.steps(Growing.FLOATING, Growing.BARE);
        r.check(1);
        r.row(0, Growing.C, Growing.V);
        r.row(1, Growing.C);
    }
}
