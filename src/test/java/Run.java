import java.util.ArrayList;
import java.util.List;

/**
 * One object and its calls, each with the answer that is due. It sees to it that a test stays
 * within the 512 calls for which answers are promised.
 */
final class Run {
    static final int NONE = StepPile.NONE;
    /** Too small, too large, and such that sums, products or a narrower type would wrap around. */
    static final int[] WRONG = {-1, -2, -1000, 1000, 1 << 16, -1 << 16, 1 << 30, Integer.MIN_VALUE,
        Integer.MIN_VALUE + 1, Integer.MAX_VALUE - 1, Integer.MAX_VALUE};

    private static final int MOST_CALLS = 512;

    private final Due d;
    private final StepPile x = new StepPile();
    private int calls = 0;
    private int mostCalls = MOST_CALLS;
    private int symbols = 0;
    private int statements = 0;

    /** Names the sentence of the document that the run is about. */
    Run(Due d, String sentence) {
        this.d = d;
        d.at(sentence);
    }

    /** For the two limits that lie beyond 512 calls: answers are free there, but these are what the class gives. */
    void beyond512() {
        mostCalls = Integer.MAX_VALUE;
    }

    int calls() {
        return calls;
    }

    private int called(int answer) {
        calls++;
        if (calls == mostCalls + 1) {
            d.isTrue("the test keeps to 512 calls", false);
        }
        return answer;
    }

    private void due(String call, int answer, int want) {
        d.due(call, called(answer), want);
    }

    void symbol(int what, int want) {
        due("symbol(" + what + ")", x.symbol(what), want);
        symbols += want == NONE ? 0 : 1;
    }

    void begin(int kind, int want) {
        due("begin(" + kind + ")", x.begin(kind), want);
        statements += want == NONE ? 0 : 1;
    }

    void put(int symbol, int want) {
        due("put(" + symbol + ")", x.put(symbol), want);
    }

    void need(int hypothesis, int want) {
        due("need(" + hypothesis + ")", x.need(hypothesis), want);
    }

    void pair(int s, int t, int want) {
        due("pair(" + s + ", " + t + ")", x.pair(s, t), want);
    }

    void close(int want) {
        due("close()", x.close(), want);
    }

    void apart(int s, int t, int want) {
        due("apart(" + s + ", " + t + ")", x.apart(s, t), want);
    }

    void step(int i, int want) {
        due("step(" + i + ")", x.step(i), want);
    }

    void save(int want) {
        due("save()", x.save(), want);
    }

    void again(int k, int want) {
        due("again(" + k + ")", x.again(k), want);
    }

    void clear(int want) {
        due("clear()", x.clear(), want);
    }

    void count(int what, int want) {
        due("count(" + what + ")", x.count(what), want);
    }

    void length(int row, int want) {
        due("length(" + row + ")", x.length(row), want);
    }

    void at(int row, int k, int want) {
        due("at(" + row + ", " + k + ")", x.at(row, k), want);
    }

    void told(int i, int what, int want) {
        due("told(" + i + ", " + what + ")", x.told(i, what), want);
    }

    void is(int row, int i, int want) {
        due("is(" + row + ", " + i + ")", x.is(row, i), want);
    }

    void check(int want) {
        due("check()", x.check(), want);
    }

    int constant() {
        symbol(1, symbols);
        return symbols - 1;
    }

    int variable() {
        symbol(0, symbols);
        return symbols - 1;
    }

    private int open(int kind) {
        begin(kind, statements);
        return statements - 1;
    }

    void puts(int... text) {
        for (int k = 0; k < text.length; k++) {
            put(text[k], k + 1);
        }
    }

    int floating(int type, int variable) {
        int i = open(0);
        puts(type, variable);
        close(1);
        return i;
    }

    int essential(int... text) {
        int i = open(1);
        puts(text);
        close(1);
        return i;
    }

    /** An assertion with these mandatory hypotheses, still open and without symbols. */
    int openAssertion(int... needs) {
        int i = open(2);
        for (int k = 0; k < needs.length; k++) {
            need(needs[k], k + 1);
        }
        return i;
    }

    int assertion(int[] needs, int... text) {
        int i = openAssertion(needs);
        puts(text);
        close(1);
        return i;
    }

    /** An assertion with one pair. */
    int paired(int s, int t, int[] needs, int... text) {
        int i = openAssertion(needs);
        pair(s, t, 1);
        puts(text);
        close(1);
        return i;
    }

    static int[] needs(int... hypotheses) {
        return hypotheses;
    }

    void steps(int... which) {
        for (int i : which) {
            step(i, 0);
        }
    }

    void stepTimes(int i, int times) {
        for (int n = 0; n < times; n++) {
            step(i, 0);
        }
    }

    void againTimes(int k, int times) {
        for (int n = 0; n < times; n++) {
            again(k, 0);
        }
    }

    void row(int row, int... text) {
        length(row, text.length);
        for (int k = 0; k < text.length; k++) {
            at(row, k, text[k]);
        }
    }

    /** The pile and what is saved are empty. */
    void empty() {
        count(2, 0);
        count(3, 0);
        count(4, 0);
        length(0, NONE);
        again(0, NONE);
    }

    /** What can be seen: all counts, the last statement, and the row on top at both ends. */
    private List<Integer> state() {
        List<Integer> seen = new ArrayList<>();
        for (int what = 0; what < 5; what++) {
            seen.add(called(x.count(what)));
        }
        for (int what = 0; what < 5; what++) {
            seen.add(called(x.told(statements - 1, what)));
        }
        int top = seen.get(2) - 1;
        int size = called(x.length(top));
        seen.add(size);
        seen.add(called(x.at(top, 0)));
        seen.add(called(x.at(top, size - 1)));
        return seen;
    }

    /** Calls that are refused: nothing is done by them. */
    void keeps(Runnable refused) {
        List<Integer> before = state();
        refused.run();
        List<Integer> after = state();
        d.isTrue("nothing is done: " + before + " became " + after, after.equals(before));
    }
}
