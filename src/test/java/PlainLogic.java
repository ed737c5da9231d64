import java.util.ArrayList;
import java.util.List;

/** The document's terms as they are told, without regard to speed: what StateLogic is held against. */
final class PlainLogic {
    private final int states;
    private final List<int[]> rules = new ArrayList<>();
    private final List<int[]> formulas = new ArrayList<>();

    PlainLogic(int bits) {
        states = 1 << bits;
    }

    void rule(int mask, int value, int keep, int flip) {
        rules.add(new int[] {mask, value, keep, flip});
    }

    void formula(int kind, int x, int y) {
        formulas.add(new int[] {kind, x, y});
    }

    boolean goes(int from, int to) {
        for (int[] rule : rules) {
            if ((from & rule[0]) == rule[1] && ((from & rule[2]) ^ rule[3]) == to) {
                return true;
            }
        }
        return false;
    }

    boolean[][] steps() {
        boolean[][] steps = new boolean[states][states];
        for (int from = 0; from < states; from++) {
            for (int to = 0; to < states; to++) {
                steps[from][to] = goes(from, to);
            }
        }
        return steps;
    }

    boolean[] truth(int formula, boolean[][] steps) {
        int[] told = formulas.get(formula);
        boolean[] truth = new boolean[states];
        if (told[0] == 0) {
            for (int s = 0; s < states; s++) {
                truth[s] = (s & told[1]) == told[2];
            }
            return truth;
        }
        boolean[] x = truth(told[1], steps);
        boolean two = told[0] == 2 || told[0] == 3 || told[0] == 5 || told[0] == 7;
        boolean[] y = two ? truth(told[2], steps) : x;
        boolean[][] ways = told[0] == 7 ? closure(x, steps) : null;
        int[] shortest = told[0] == 5 ? shortest(x, y, steps) : null;
        boolean[] endless = told[0] == 6 ? endless(x, steps) : null;
        for (int s = 0; s < states; s++) {
            truth[s] = switch (told[0]) {
                case 1 -> !x[s];
                case 2 -> x[s] && y[s];
                case 3 -> x[s] || y[s];
                case 4 -> leads(s, x, steps);
                case 5 -> shortest[s] != 0;
                case 6 -> endless[s];
                default -> x[s] && again(s, y, ways);
            };
        }
        return truth;
    }

    int[] witness(int formula, int state, boolean[][] steps) {
        boolean[] x = truth(formulas.get(formula)[1], steps);
        boolean[] y = truth(formulas.get(formula)[2], steps);
        int length = shortest(x, y, steps)[state];
        int[] row = new int[length];
        if (length > 0) {
            row[0] = state;
        }
        for (int k = 1; k < length; k++) {
            boolean[] fits = rowsOf(length - k, x, y, steps);
            int next = 0;
            while (!(steps[row[k - 1]][next] && fits[next])) {
                next++;
            }
            row[k] = next;
        }
        return row;
    }

    private boolean leads(int from, boolean[] to, boolean[][] steps) {
        for (int s = 0; s < states; s++) {
            if (steps[from][s] && to[s]) {
                return true;
            }
        }
        return false;
    }

    /** From which states there is a row of just so many states, the last with y, the others with x. */
    private boolean[] rowsOf(int length, boolean[] x, boolean[] y, boolean[][] steps) {
        boolean[] fits = y.clone();
        for (int more = 1; more < length; more++) {
            fits = before(fits, x, steps);
        }
        return fits;
    }

    private boolean[] before(boolean[] fits, boolean[] x, boolean[][] steps) {
        boolean[] earlier = new boolean[states];
        for (int s = 0; s < states; s++) {
            earlier[s] = x[s] && leads(s, fits, steps);
        }
        return earlier;
    }

    private int[] shortest(boolean[] x, boolean[] y, boolean[][] steps) {
        int[] shortest = new int[states];
        boolean[] fits = y;
        for (int length = 1; length <= states; length++) {
            for (int s = 0; s < states; s++) {
                if (fits[s] && shortest[s] == 0) {
                    shortest[s] = length;
                }
            }
            fits = before(fits, x, steps);
        }
        return shortest;
    }

    /** A row of more states than there are comes to one of them twice, and so can go on for ever. */
    private boolean[] endless(boolean[] x, boolean[][] steps) {
        return rowsOf(states + 1, x, x, steps);
    }

    private boolean[][] closure(boolean[] x, boolean[][] steps) {
        boolean[][] ways = new boolean[states][states];
        for (int from = 0; from < states; from++) {
            for (int to = 0; to < states; to++) {
                ways[from][to] = x[from] && x[to] && steps[from][to];
            }
        }
        for (int by = 0; by < states; by++) {
            for (int from = 0; from < states; from++) {
                for (int to = 0; ways[from][by] && to < states; to++) {
                    ways[from][to] |= ways[by][to];
                }
            }
        }
        return ways;
    }

    private boolean again(int state, boolean[] y, boolean[][] ways) {
        for (int s = 0; s < states; s++) {
            if (y[s] && ways[s][s] && (s == state || ways[state][s])) {
                return true;
            }
        }
        return false;
    }
}
