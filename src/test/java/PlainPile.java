import java.util.ArrayList;
import java.util.Collections;
import java.util.HashMap;
import java.util.HashSet;
import java.util.List;
import java.util.Map;
import java.util.Set;

/** The document once more, as plainly as the Java library lets it be written: what StepPile is held against. */
final class PlainPile {
    private static final class Statement {
        final int kind;
        final List<Integer> text = new ArrayList<>();
        final List<Statement> needs = new ArrayList<>();
        final List<Set<Integer>> pairs = new ArrayList<>();
        boolean closed = false;

        Statement(int kind) {
            this.kind = kind;
        }

        Set<Integer> floated() {
            Set<Integer> variables = new HashSet<>();
            for (Statement hypothesis : needs) {
                if (hypothesis.kind == 0) {
                    variables.add(hypothesis.text.get(1));
                }
            }
            return variables;
        }
    }

    private final List<Boolean> variable = new ArrayList<>();
    private final List<Statement> statements = new ArrayList<>();
    private final Set<Set<Integer>> apart = new HashSet<>();
    private List<List<Integer>> pile = new ArrayList<>();
    private List<List<Integer>> saved = new ArrayList<>();

    private boolean isVariable(int s) {
        return s >= 0 && s < variable.size() && variable.get(s);
    }

    private boolean isStatement(int i) {
        return i >= 0 && i < statements.size();
    }

    private Statement open() {
        for (Statement statement : statements) {
            if (!statement.closed) {
                return statement;
            }
        }
        return null;
    }

    private Set<Integer> variablesOf(List<Integer> row) {
        Set<Integer> found = new HashSet<>();
        for (int s : row) {
            if (isVariable(s)) {
                found.add(s);
            }
        }
        return found;
    }

    private static int total(List<List<Integer>> rows) {
        int sum = 0;
        for (List<Integer> row : rows) {
            sum += row.size();
        }
        return sum;
    }

    int symbol(int what) {
        if (what < 0 || what > 1 || variable.size() == 1000) {
            return -1;
        }
        variable.add(what == 0);
        return variable.size() - 1;
    }

    int begin(int kind) {
        if (open() != null || kind < 0 || kind > 2 || statements.size() == 300) {
            return -1;
        }
        statements.add(new Statement(kind));
        return statements.size() - 1;
    }

    int put(int symbol) {
        Statement o = open();
        if (o == null || symbol < 0 || symbol >= variable.size() || o.text.size() == 300) {
            return -1;
        }
        if (o.text.isEmpty() && isVariable(symbol)) {
            return -1;
        }
        if (o.kind == 0 && (o.text.size() == 2 || (o.text.size() == 1 && !isVariable(symbol)))) {
            return -1;
        }
        o.text.add(symbol);
        return o.text.size();
    }

    int need(int hypothesis) {
        Statement o = open();
        if (o == null || o.kind != 2 || !isStatement(hypothesis) || o.needs.size() == 60) {
            return -1;
        }
        Statement h = statements.get(hypothesis);
        if (!h.closed || h.kind == 2 || o.needs.contains(h)) {
            return -1;
        }
        if (h.kind == 0 && o.floated().contains(h.text.get(1))) {
            return -1;
        }
        if (h.kind == 1 && !o.floated().containsAll(variablesOf(h.text))) {
            return -1;
        }
        o.needs.add(h);
        return o.needs.size();
    }

    int pair(int s, int t) {
        Statement o = open();
        if (o == null || o.kind != 2 || s == t || o.pairs.size() == 200) {
            return -1;
        }
        if (!o.floated().contains(s) || !o.floated().contains(t) || o.pairs.contains(Set.of(s, t))) {
            return -1;
        }
        o.pairs.add(Set.of(s, t));
        return o.pairs.size();
    }

    int close() {
        Statement o = open();
        if (o == null || o.text.isEmpty() || (o.kind == 0 && o.text.size() != 2)) {
            return 0;
        }
        if (o.kind == 2 && !o.floated().containsAll(variablesOf(o.text))) {
            return 0;
        }
        o.closed = true;
        return 1;
    }

    int apart(int s, int t) {
        return s != t && isVariable(s) && isVariable(t) && apart.add(Set.of(s, t)) ? 1 : 0;
    }

    private static List<Integer> replaced(List<Integer> text, Map<Integer, List<Integer>> becomes) {
        List<Integer> row = new ArrayList<>();
        for (int s : text) {
            row.addAll(becomes.getOrDefault(s, List.of(s)));
        }
        return row;
    }

    private boolean areApart(List<Integer> one, List<Integer> other) {
        for (int s : variablesOf(one)) {
            for (int t : variablesOf(other)) {
                if (s == t || !apart.contains(Set.of(s, t))) {
                    return false;
                }
            }
        }
        return true;
    }

    /** The pile after a step, or the fault that it would have; nothing changes here. */
    private int tryStep(int i, List<List<Integer>> after) {
        Statement a = statements.get(i);
        List<List<Integer>> rest = new ArrayList<>(pile);
        if (rest.size() < a.needs.size()) {
            return 15;
        }
        List<List<Integer>> taken = rest.subList(rest.size() - a.needs.size(), rest.size());
        Map<Integer, List<Integer>> becomes = new HashMap<>();
        for (int k = 0; k < a.needs.size(); k++) {
            Statement h = a.needs.get(k);
            List<Integer> row = taken.get(k);
            if (h.kind == 0) {
                if (!row.get(0).equals(h.text.get(0))) {
                    return 16;
                }
                becomes.put(h.text.get(1), row.subList(1, row.size()));
            } else if (!row.equals(replaced(h.text, becomes))) {
                return 16;
            }
        }
        for (Set<Integer> pair : a.pairs) {
            List<Integer> two = new ArrayList<>(pair);
            if (!areApart(becomes.get(two.get(0)), becomes.get(two.get(1)))) {
                return 17;
            }
        }
        List<Integer> made = replaced(a.text, becomes);
        after.addAll(rest.subList(0, rest.size() - a.needs.size()));
        after.add(made);
        return made.size() > 1000 || isTooMuch(after, saved) ? 5 : 0;
    }

    private static boolean isTooMuch(List<List<Integer>> rows, List<List<Integer>> kept) {
        return rows.size() > 200 || total(rows) + total(kept) > 40000;
    }

    /** Whether a statement has an essential hypothesis with a variable in it. */
    boolean needsEssential(int i) {
        if (!isStatement(i)) {
            return false;
        }
        for (Statement hypothesis : statements.get(i).needs) {
            if (hypothesis.kind == 1 && !variablesOf(hypothesis.text).isEmpty()) {
                return true;
            }
        }
        return false;
    }

    /** The first symbol of a statement. */
    int typeOf(int i) {
        return statements.get(i).text.get(0);
    }

    /** Whether an assertion with this symbol could be closed. */
    boolean mayHave(int i, int s) {
        return !isVariable(s) || statements.get(i).floated().contains(s);
    }

    /** What step(i) would answer. */
    int faultOf(int i) {
        return isStatement(i) && statements.get(i).closed ? tryStep(i, new ArrayList<>()) : -1;
    }

    int step(int i) {
        if (!isStatement(i) || !statements.get(i).closed) {
            return -1;
        }
        List<List<Integer>> after = new ArrayList<>();
        int fault = tryStep(i, after);
        pile = after;
        if (fault != 0) {
            clear();
        }
        return fault;
    }

    int save() {
        if (pile.isEmpty() || saved.size() == 300) {
            return -1;
        }
        saved.add(pile.get(pile.size() - 1));
        if (total(pile) + total(saved) > 40000) {
            clear();
            return 5;
        }
        return saved.size() - 1;
    }

    int again(int k) {
        if (k < 0 || k >= saved.size()) {
            return -1;
        }
        pile.add(saved.get(k));
        if (isTooMuch(pile, saved)) {
            clear();
            return 5;
        }
        return 0;
    }

    int clear() {
        int had = pile.size();
        pile = new ArrayList<>();
        saved = new ArrayList<>();
        return had;
    }

    int count(int what) {
        int[] counts = {variable.size(), statements.size(), pile.size(), saved.size(), total(pile) + total(saved)};
        return what >= 0 && what < counts.length ? counts[what] : -1;
    }

    int length(int row) {
        return row >= 0 && row < pile.size() ? pile.get(row).size() : -1;
    }

    int at(int row, int k) {
        return k >= 0 && k < length(row) ? pile.get(row).get(k) : -1;
    }

    int told(int i, int what) {
        if (!isStatement(i) || what < 0 || what > 4) {
            return -1;
        }
        Statement s = statements.get(i);
        return List.of(s.text.size(), s.needs.size(), s.pairs.size(), s.closed ? 1 : 0, s.kind).get(what);
    }

    int is(int row, int i) {
        if (length(row) == -1 || !isStatement(i)) {
            return -1;
        }
        return pile.get(row).equals(statements.get(i).text) ? 1 : 0;
    }

    int check() {
        for (List<Integer> row : pile) {
            if (row.isEmpty() || isVariable(row.get(0))) {
                return 0;
            }
        }
        return 1;
    }

    List<List<Integer>> rows() {
        return Collections.unmodifiableList(pile);
    }
}
