import java.util.ArrayList;
import java.util.List;
import java.util.NoSuchElementException;

/** The document as it is told, without regard to speed: what StateLogic is held against. */
final class PlainLogic {
    private int states = 2;
    private final List<int[]> rules = new ArrayList<>();
    private final List<int[]> formulas = new ArrayList<>();
    // Worked out anew when a rule or a formula has come, for these alone change what holds.
    private boolean[][] steps;
    private boolean[][] truths = new boolean[60][];

    void begin(int n) {
        argument(n >= 1 && n <= 8);
        states = 1 << n;
        rules.clear();
        formulas.clear();
        forget();
    }

    int rule(int mask, int value, int keep, int flip) {
        argument(isState(mask) && isState(value) && isState(keep) && isState(flip));
        argument((mask | value) == mask);
        room(rules.size() < 40);
        rules.add(new int[] {mask, value, keep, flip});
        forget();
        return rules.size() - 1;
    }

    int formula(int kind, int x, int y) {
        argument(kind >= 0 && kind <= 7);
        if (kind == 0) {
            argument(isState(x) && isState(y) && (x | y) == x);
        } else {
            argument(isFormula(x) && (!hasY(kind) || isFormula(y)));
        }
        room(formulas.size() < 60);
        formulas.add(new int[] {kind, x, y});
        forget();
        return formulas.size() - 1;
    }

    boolean holds(int formula, int state) {
        index(isFormula(formula) && isState(state));
        return truth(formula)[state];
    }

    int count(int formula) {
        index(isFormula(formula));
        int count = 0;
        for (boolean holds : truth(formula)) {
            count += holds ? 1 : 0;
        }
        return count;
    }

    int first(int formula, int state) {
        index(isFormula(formula) && isState(state));
        for (int s = state; s < states; s++) {
            if (truth(formula)[s]) {
                return s;
            }
        }
        return -1;
    }

    int length(int formula, int state) {
        return row(formula, state).length;
    }

    int witness(int formula, int state, int k) {
        int[] row = row(formula, state);
        if (k < 0 || k >= row.length) {
            throw new NoSuchElementException();
        }
        return row[k];
    }

    int ways(int state) {
        index(isState(state));
        int ways = 0;
        for (boolean goes : steps()[state]) {
            ways += goes ? 1 : 0;
        }
        return ways;
    }

    int formulas() {
        return formulas.size();
    }

    boolean isUntil(int formula) {
        return isFormula(formula) && formulas.get(formula)[0] == 5;
    }

    private static void argument(boolean right) {
        if (!right) {
            throw new IllegalArgumentException();
        }
    }

    private static void index(boolean right) {
        if (!right) {
            throw new IndexOutOfBoundsException();
        }
    }

    private static void room(boolean left) {
        if (!left) {
            throw new UnsupportedOperationException();
        }
    }

    private boolean isState(int state) {
        return state >= 0 && state < states;
    }

    private boolean isFormula(int formula) {
        return formula >= 0 && formula < formulas.size();
    }

    private static boolean hasY(int kind) {
        return kind == 2 || kind == 3 || kind == 5 || kind == 7;
    }

    private void forget() {
        steps = null;
        truths = new boolean[60][];
    }

    private boolean goes(int from, int to) {
        for (int[] rule : rules) {
            if ((from & rule[0]) == rule[1] && ((from & rule[2]) ^ rule[3]) == to) {
                return true;
            }
        }
        return false;
    }

    private boolean[][] steps() {
        if (steps == null) {
            steps = new boolean[states][states];
            for (int from = 0; from < states; from++) {
                for (int to = 0; to < states; to++) {
                    steps[from][to] = goes(from, to);
                }
            }
        }
        return steps;
    }

    private boolean[] truth(int formula) {
        if (truths[formula] == null) {
            int[] told = formulas.get(formula);
            truths[formula] = told[0] == 0 ? atom(told[1], told[2]) : compound(told);
        }
        return truths[formula];
    }

    private boolean[] atom(int mask, int value) {
        boolean[] truth = new boolean[states];
        for (int s = 0; s < states; s++) {
            truth[s] = (s & mask) == value;
        }
        return truth;
    }

    private boolean[] compound(int[] told) {
        boolean[] x = truth(told[1]);
        boolean[] y = hasY(told[0]) ? truth(told[2]) : x;
        boolean[][] ways = told[0] == 7 ? closure(x) : null;
        int[] shortest = told[0] == 5 ? shortest(x, y) : null;
        boolean[] endless = told[0] == 6 ? endless(x) : null;
        boolean[] truth = new boolean[states];
        for (int s = 0; s < states; s++) {
            truth[s] = switch (told[0]) {
                case 1 -> !x[s];
                case 2 -> x[s] && y[s];
                case 3 -> x[s] || y[s];
                case 4 -> leads(s, x);
                case 5 -> shortest[s] != 0;
                case 6 -> endless[s];
                default -> x[s] && again(s, y, ways);
            };
        }
        return truth;
    }

    /** The witness of an UNTIL; of no states where it doesn't hold. */
    private int[] row(int formula, int state) {
        index(isFormula(formula) && isState(state));
        argument(isUntil(formula));
        boolean[] x = truth(formulas.get(formula)[1]);
        boolean[] y = truth(formulas.get(formula)[2]);
        int length = shortest(x, y)[state];
        int[] row = new int[length];
        if (length > 0) {
            row[0] = state;
        }
        for (int k = 1; k < length; k++) {
            boolean[] fits = rowsOf(length - k, x, y);
            int next = 0;
            while (!(steps()[row[k - 1]][next] && fits[next])) {
                next++;
            }
            row[k] = next;
        }
        return row;
    }

    private boolean leads(int from, boolean[] to) {
        boolean[] goes = steps()[from];
        for (int s = 0; s < states; s++) {
            if (goes[s] && to[s]) {
                return true;
            }
        }
        return false;
    }

    /** From which states there is a row of just so many states, the last with y, the others with x. */
    private boolean[] rowsOf(int length, boolean[] x, boolean[] y) {
        boolean[] fits = y;
        for (int more = 1; more < length; more++) {
            fits = before(fits, x);
        }
        return fits;
    }

    private boolean[] before(boolean[] fits, boolean[] x) {
        boolean[] earlier = new boolean[states];
        for (int s = 0; s < states; s++) {
            earlier[s] = x[s] && leads(s, fits);
        }
        return earlier;
    }

    private int[] shortest(boolean[] x, boolean[] y) {
        int[] shortest = new int[states];
        boolean[] fits = y;
        for (int length = 1; length <= states; length++) {
            for (int s = 0; s < states; s++) {
                if (fits[s] && shortest[s] == 0) {
                    shortest[s] = length;
                }
            }
            fits = before(fits, x);
        }
        return shortest;
    }

    /** A row of more states than there are comes to one of them twice, and so can go on for ever. */
    private boolean[] endless(boolean[] x) {
        return rowsOf(states + 1, x, x);
    }

    private boolean[][] closure(boolean[] x) {
        boolean[][] ways = new boolean[states][states];
        for (int from = 0; from < states; from++) {
            for (int to = 0; to < states; to++) {
                ways[from][to] = x[from] && x[to] && steps()[from][to];
            }
        }
        for (int by = 0; by < states; by++) {
            for (int from = 0; from < states; from++) {
                for (int to = 0; ways[from][by] && to < states; to++) {
                    ways[from][to] |= ways[by][to];
                }
            }
        }
        return ways;
    }

    private boolean again(int state, boolean[] y, boolean[][] ways) {
        for (int s = 0; s < states; s++) {
            if (y[s] && ways[s][s] && (s == state || ways[state][s])) {
                return true;
            }
        }
        return false;
    }
}
