import java.util.List;
import java.util.Random;
import java.util.TreeMap;

/** Many runs of 512 calls, the same every time, on StepPile and on PlainPile: both must answer alike. */
public final class ReferenceTest {
    private static final int RUNS = 4000;
    private static final int CALLS = 512;
    private static final Due d = new Due();
    /** How often each answer came: a test whose steps all fail would show nothing. */
    private static final TreeMap<String, Integer> seen = new TreeMap<>();

    private final Random random;
    private final StepPile x = new StepPile();
    private final PlainPile y = new PlainPile();
    private final int constants;
    private final int variables;
    private final int mostText;
    /** How many steps in a hundred are chosen among those without a fault. */
    private final int care;
    /** Whether long rows are made and piled up, to come near the limits of the symbols. */
    private final boolean hoards;
    private int calls = 0;

    private ReferenceTest(int seed) {
        random = new Random(seed);
        constants = 1 + random.nextInt(3);
        variables = 1 + random.nextInt(seed % 4 == 0 ? 12 : 4);
        mostText = 2 + random.nextInt(seed % 5 == 0 ? 30 : 6);
        hoards = seed % 6 == 1;
        care = seed % 3 == 0 ? random.nextInt(100) : 90 + random.nextInt(10);
    }

    public static void main(String[] args) {
        for (int seed = 0; seed < RUNS; seed++) {
            d.at("seed " + seed);
            new ReferenceTest(seed).run();
        }
        System.out.println("answers: " + seen);
        for (String answer : List.of("step -1", "step 0", "step 5", "step 15", "step 16", "step 17", "again -1",
                "again 0", "again 5", "save of too much 5", "step by essential 0", "step by pair 0")) {
            d.isTrue("there was '" + answer + "' often enough", seen.getOrDefault(answer, 0) >= 20);
        }
        d.end();
    }

    private void run() {
        tellAll();
        while (calls < CALLS) {
            call();
        }
        compareRows();
    }

    private boolean chance(int percent) {
        return random.nextInt(100) < percent;
    }

    /** Mostly a number below the bound, at times one at or beyond an edge. */
    private int number(int bound) {
        return chance(97) && bound > 0 ? random.nextInt(bound) : random.nextInt(bound + 4) - 2;
    }

    private int answered(String call, int got, int want) {
        calls++;
        d.due(call, got, want);
        return want;
    }

    private void note(String name, int answer) {
        seen.merge(name + " " + answer, 1, Integer::sum);
    }

    private int symbol(int what) {
        return answered("symbol(" + what + ")", x.symbol(what), y.symbol(what));
    }

    private int begin(int kind) {
        return answered("begin(" + kind + ")", x.begin(kind), y.begin(kind));
    }

    private void put(int s) {
        answered("put(" + s + ")", x.put(s), y.put(s));
    }

    private void need(int h) {
        answered("need(" + h + ")", x.need(h), y.need(h));
    }

    private void pair(int s, int t) {
        answered("pair(" + s + ", " + t + ")", x.pair(s, t), y.pair(s, t));
    }

    private void close() {
        answered("close()", x.close(), y.close());
    }

    private void apart(int s, int t) {
        answered("apart(" + s + ", " + t + ")", x.apart(s, t), y.apart(s, t));
    }

    private void save() {
        int before = y.count(3);
        int answer = answered("save()", x.save(), y.save());
        if (answer == 5 && before != 5) {
            note("save of too much", answer);
        }
    }

    private void again(int k) {
        note("again", answered("again(" + k + ")", x.again(k), y.again(k)));
    }

    private void step(int i) {
        int answer = answered("step(" + i + ")", x.step(i), y.step(i));
        note("step", answer);
        if (y.needsEssential(i)) {
            note("step by essential", answer);
        }
        if (y.told(i, 2) > 0) {
            note("step by pair", answer);
        }
    }

    private int anySymbol() {
        return number(constants + variables);
    }

    private int anyVariable() {
        return constants + number(variables);
    }

    private void tellAll() {
        for (int k = 0; k < constants; k++) {
            symbol(1);
        }
        for (int k = 0; k < variables; k++) {
            symbol(0);
        }
        for (int k = 0; k < variables; k++) {
            begin(0);
            put(random.nextInt(constants));
            put(constants + k);
            close();
        }
        if (hoards) {
            tellTwice(0);
        }
        int more = 3 + random.nextInt(6);
        for (int k = 0; k < more; k++) {
            begin(chance(30) ? 1 : 2);
            tellOpen();
        }
    }

    /** An assertion that makes rows of the first variable's type twice as long. */
    private void tellTwice(int floating) {
        begin(2);
        need(floating);
        put(y.typeOf(floating));
        put(constants);
        put(constants);
        close();
    }

    private void tellOpen() {
        int last = y.count(1) - 1;
        boolean assertion = y.told(last, 4) == 2;
        if (assertion) {
            int needs = random.nextInt(1 + Math.min(2 * last, 12));
            for (int k = 0; k < needs; k++) {
                need(number(last));
            }
            int pairs = chance(50) ? 0 : random.nextInt(4);
            for (int k = 0; k < pairs; k++) {
                pair(anyVariable(), anyVariable());
            }
        }
        put(number(constants));
        int size = random.nextInt(mostText);
        for (int k = 0; k < size; k++) {
            put(assertion ? neededSymbol(last) : anySymbol());
        }
        close();
    }

    /** Rather a symbol that the assertion may have. */
    private int neededSymbol(int i) {
        int s = anySymbol();
        for (int tries = 0; tries < 30 && !y.mayHave(i, s); tries++) {
            s = anySymbol();
        }
        return s;
    }

    private void call() {
        int choice = random.nextInt(100);
        if (hoards && choice < 70) {
            hoard();
            return;
        }
        if (isOpen() && choice < 30) {
            tellMore();
        } else if (choice < 4) {
            begin(number(3));
        } else if (choice < 5) {
            symbol(number(2));
        } else if (choice < 75) {
            move();
        } else {
            look();
        }
    }

    private void hoard() {
        int top = y.count(2) - 1;
        if (y.length(top) < 500) {
            step(y.faultOf(variables) == 0 ? variables : 0);
        } else if (chance(30)) {
            save();
        } else {
            again(number(y.count(3)));
        }
    }

    private boolean isOpen() {
        int last = y.count(1) - 1;
        return last >= 0 && y.told(last, 3) == 0;
    }

    private void tellMore() {
        int choice = random.nextInt(10);
        if (choice < 3) {
            need(number(y.count(1)));
        } else if (choice < 4) {
            pair(anyVariable(), anySymbol());
        } else if (choice < 7) {
            put(anySymbol());
        } else {
            close();
        }
    }

    private void move() {
        int choice = random.nextInt(100);
        if (choice < 75) {
            step(statementToStep());
        } else if (choice < 82) {
            save();
        } else if (choice < 94) {
            again(number(y.count(3)));
        } else if (chance(3)) {
            answered("clear()", x.clear(), y.clear());
        } else {
            apart(anyVariable(), chance(90) ? anyVariable() : anySymbol());
        }
    }

    /** Rather one by an assertion that needs rows, so that rows grow. */
    private int statementToStep() {
        int i = number(y.count(1));
        if (!chance(care)) {
            return i;
        }
        for (int tries = 0; tries < 20; tries++) {
            if (y.faultOf(i) == 0 && (y.told(i, 1) > 0 || chance(20))) {
                return i;
            }
            i = number(y.count(1));
        }
        return i;
    }

    private void look() {
        int row = number(y.count(2));
        int i = number(y.count(1));
        int what = number(5);
        int k = number(Math.max(y.length(row), 0));
        switch (random.nextInt(6)) {
            case 0 -> answered("count(" + what + ")", x.count(what), y.count(what));
            case 1 -> answered("length(" + row + ")", x.length(row), y.length(row));
            case 2 -> answered("at(" + row + ", " + k + ")", x.at(row, k), y.at(row, k));
            case 3 -> answered("told(" + i + ", " + what + ")", x.told(i, what), y.told(i, what));
            case 4 -> answered("is(" + row + ", " + i + ")", x.is(row, i), y.is(row, i));
            default -> answered("check()", x.check(), y.check());
        }
    }

    private void compareRows() {
        List<List<Integer>> rows = y.rows();
        for (int row = 0; row < rows.size(); row++) {
            d.due("length(" + row + ")", x.length(row), rows.get(row).size());
            for (int k = 0; k < rows.get(row).size(); k++) {
                d.due("at(" + row + ", " + k + ")", x.at(row, k), rows.get(row).get(k));
            }
        }
    }
}
