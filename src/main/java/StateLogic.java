import java.util.Arrays;
import java.util.NoSuchElementException;

/**
 * Machines of a few bits that go from state to state by rules; formulas over their endless and
 * ended rows of states: in which states they hold, and the shortest row that shows it.
 */
public final class StateLogic {
    public static final int NONE = -1;

    private static final int MOST_BITS = 8;
    private static final int MOST_STATES = 256;
    private static final int MOST_RULES = 40;
    private static final int MOST_FORMULAS = 60;

    private static final int ATOM = 0;
    private static final int NOT = 1;
    private static final int AND = 2;
    private static final int OR = 3;
    private static final int NEXT = 4;
    private static final int UNTIL = 5;
    private static final int ALWAYS = 6;
    private static final int AGAIN = 7;

    private final Machine machine;
    private final Formulas formulas;

    public StateLogic() {
        machine = new Machine();
        formulas = new Formulas(machine);
    }

    public void begin(int n) throws IllegalArgumentException {
        if (n < 1 || n > MOST_BITS) {
            throw new IllegalArgumentException("the number of bits isn't 1 .. 8");
        }
        machine.restart(n);
        formulas.forgetAll();
    }

    public int rule(int mask, int value, int keep, int flip)
            throws IllegalArgumentException, UnsupportedOperationException {
        requirePattern(mask, value);
        if (!machine.isState(keep) || !machine.isState(flip)) {
            throw new IllegalArgumentException("the bits kept or flipped aren't a state");
        }
        if (machine.rules >= MOST_RULES) {
            throw new UnsupportedOperationException("there are 40 rules");
        }
        return machine.addRule(mask, value, keep, flip);
    }

    public int formula(int kind, int x, int y)
            throws IllegalArgumentException, UnsupportedOperationException {
        if (kind < ATOM || kind > AGAIN) {
            throw new IllegalArgumentException("there is no such kind");
        }
        if (kind == ATOM) {
            requirePattern(x, y);
        } else if (!formulas.isThere(x) || (hasTwoParts(kind) && !formulas.isThere(y))) {
            throw new IllegalArgumentException("a part isn't there");
        }
        if (formulas.made >= MOST_FORMULAS) {
            throw new UnsupportedOperationException("there are 60 formulas");
        }
        return formulas.addFormula(kind, x, y);
    }

    public boolean holds(int formula, int state) throws IndexOutOfBoundsException {
        requireFormula(formula);
        requireState(state);
        formulas.settle(formula);
        return formulas.truth.has(formula, state);
    }

    public int count(int formula) throws IndexOutOfBoundsException {
        requireFormula(formula);
        formulas.settle(formula);
        return formulas.truth.size(formula);
    }

    public int first(int formula, int state) throws IndexOutOfBoundsException {
        requireFormula(formula);
        requireState(state);
        formulas.settle(formula);
        return formulas.truth.leastFrom(formula, state);
    }

    public int length(int formula, int state)
            throws IndexOutOfBoundsException, IllegalArgumentException {
        requireFormula(formula);
        requireState(state);
        requireUntil(formula);
        formulas.settle(formula);
        return formulas.rowLength(formula, state);
    }

    public int witness(int formula, int state, int k)
            throws IndexOutOfBoundsException, IllegalArgumentException, NoSuchElementException {
        requireFormula(formula);
        requireState(state);
        requireUntil(formula);
        formulas.settle(formula);
        if (k < 0 || k >= formulas.rowLength(formula, state)) {
            throw new NoSuchElementException("the witness has no such state");
        }
        return formulas.rowState(state, k);
    }

    public int ways(int state) throws IndexOutOfBoundsException {
        requireState(state);
        return machine.successors.size(state);
    }

    private void requirePattern(int mask, int value) {
        if (!machine.isState(mask) || !machine.isState(value)) {
            throw new IllegalArgumentException("the mask or the value isn't a state");
        }
        if ((value & ~mask) != 0) {
            throw new IllegalArgumentException("the value has a bit that the mask hasn't");
        }
    }

    private void requireFormula(int formula) {
        if (!formulas.isThere(formula)) {
            throw new IndexOutOfBoundsException("there is no such formula");
        }
    }

    private void requireState(int state) {
        if (!machine.isState(state)) {
            throw new IndexOutOfBoundsException("there is no such state");
        }
    }

    private void requireUntil(int formula) {
        if (formulas.kinds[formula] != UNTIL) {
            throw new IllegalArgumentException("the formula is no UNTIL");
        }
    }

    private static boolean hasTwoParts(int kind) {
        return kind == AND || kind == OR || kind == UNTIL || kind == AGAIN;
    }

    /** A fixed number of sets of states; one row of words holds them all, to make few objects. */
    private static final class Sets {
        static final int WORDS = 4;

        final long[] words;

        Sets(int many) {
            words = new long[many * WORDS];
        }

        void emptyAll() {
            Arrays.fill(words, 0L);
        }

        void empty(int set) {
            for (int at = 0; at < WORDS; at++) {
                words[set * WORDS + at] = 0L;
            }
        }

        void copy(int set, Sets others, int other) {
            System.arraycopy(others.words, other * WORDS, words, set * WORDS, WORDS);
        }

        boolean has(int set, int state) {
            return (words[set * WORDS + (state >> 6)] >>> (state & 63) & 1L) != 0L;
        }

        void put(int set, int state) {
            words[set * WORDS + (state >> 6)] |= 1L << (state & 63);
        }

        void drop(int set, int state) {
            words[set * WORDS + (state >> 6)] &= ~(1L << (state & 63));
        }

        int size(int set) {
            int size = 0;
            for (int at = 0; at < WORDS; at++) {
                size += Long.bitCount(words[set * WORDS + at]);
            }
            return size;
        }

        boolean meets(int set, Sets others, int other) {
            for (int at = 0; at < WORDS; at++) {
                if ((words[set * WORDS + at] & others.words[other * WORDS + at]) != 0L) {
                    return true;
                }
            }
            return false;
        }

        /** The least state of a set from one on, or NONE. */
        int leastFrom(int set, int from) {
            long wanted = -1L << (from & 63);
            for (int at = from >> 6; at < WORDS; at++) {
                long rest = words[set * WORDS + at] & wanted;
                if (rest != 0L) {
                    return at * 64 + Long.bitCount((rest & -rest) - 1L);
                }
                wanted = -1L;
            }
            return NONE;
        }

        /** Takes the least state that another set has too out of a set; NONE if there is none. */
        int takeShared(int set, Sets others, int other) {
            for (int at = 0; at < WORDS; at++) {
                long shared = words[set * WORDS + at] & others.words[other * WORDS + at];
                if (shared != 0L) {
                    long lowest = shared & -shared;
                    words[set * WORDS + at] ^= lowest;
                    return at * 64 + Long.bitCount(lowest - 1L);
                }
            }
            return NONE;
        }
    }

    /** The states and which goes to which; a rule is told into the sets at once and not kept. */
    private static final class Machine {
        final Sets all = new Sets(1);
        final Sets successors = new Sets(MOST_STATES);
        final Sets predecessors = new Sets(MOST_STATES);
        int states;
        int rules;

        Machine() {
            restart(1);
        }

        void restart(int bits) {
            states = 1 << bits;
            rules = 0;
            all.emptyAll();
            successors.emptyAll();
            predecessors.emptyAll();
            for (int state = 0; state < states; state++) {
                all.put(0, state);
            }
        }

        boolean isState(int state) {
            return state >= 0 && state < states;
        }

        int addRule(int mask, int value, int keep, int flip) {
            for (int state = 0; state < states; state++) {
                if ((state & mask) == value) {
                    int next = (state & keep) ^ flip;
                    successors.put(state, next);
                    predecessors.put(next, state);
                }
            }
            rules++;
            return rules - 1;
        }
    }

    /** Finds states through a set of open ones; a state found is open no more, so none comes twice. */
    private static final class Search {
        final Sets open = new Sets(1);
        final int[] found = new int[MOST_STATES];
        final int[] distances = new int[MOST_STATES];
        final int[] path = new int[MOST_STATES];
        final int[] ended = new int[MOST_STATES];
        int foundCount;

        void openAll(Sets sets, int set) {
            open.copy(0, sets, set);
            foundCount = 0;
        }

        void find(int state, int distance) {
            if (foundCount < MOST_STATES) {
                found[foundCount] = state;
                foundCount++;
                distances[state] = distance;
            }
        }

        /** Finds all that the states found so far lead to, the nearest first. */
        void spread(Sets steps) {
            for (int at = 0; at < foundCount && at < MOST_STATES; at++) {
                int from = found[at];
                int state = open.takeShared(0, steps, from);
                for (int turn = 0; state != NONE && turn < MOST_STATES; turn++) {
                    find(state, distances[from] + 1);
                    state = open.takeShared(0, steps, from);
                }
            }
        }

        /**
         * Goes in depth through all open states and lists each in ended when nothing is open behind
         * it any more; tells how many. Each state takes two turns, one to enter it, one to end it.
         */
        int listEnded(Sets steps, int states) {
            int listed = 0;
            for (int root = 0; root < states; root++) {
                int depth = 0;
                if (open.has(0, root)) {
                    open.drop(0, root);
                    path[0] = root;
                    depth = 1;
                }
                for (int turn = 0; depth > 0 && turn < 2 * MOST_STATES; turn++) {
                    int next = open.takeShared(0, steps, path[depth - 1]);
                    if (next != NONE && depth < MOST_STATES) {
                        path[depth] = next;
                        depth++;
                    } else if (listed < MOST_STATES) {
                        depth--;
                        ended[listed] = path[depth];
                        listed++;
                    }
                }
            }
            return listed;
        }
    }

    /** The formulas, and in which states they hold by the rules that there were when last asked. */
    private static final class Formulas {
        final Machine machine;
        final Search search = new Search();
        final Sets truth = new Sets(MOST_FORMULAS);
        final int[] kinds = new int[MOST_FORMULAS];
        final int[] xs = new int[MOST_FORMULAS];
        final int[] ys = new int[MOST_FORMULAS];
        // Rules are only ever added, so their number tells whether a truth is still the one of now.
        final int[] settledAt = new int[MOST_FORMULAS];
        final boolean[] wanted = new boolean[MOST_FORMULAS];
        int made;
        // The UNTIL whose distances the search still has, or NONE.
        int measured;

        Formulas(Machine machine) {
            this.machine = machine;
            measured = NONE;
        }

        void forgetAll() {
            made = 0;
            measured = NONE;
        }

        boolean isThere(int formula) {
            return formula >= 0 && formula < made;
        }

        int addFormula(int kind, int x, int y) {
            kinds[made] = kind;
            xs[made] = x;
            // With its one part told twice, ys has a formula that is there, and ALWAYS x is x AGAIN x.
            ys[made] = kind == ATOM || hasTwoParts(kind) ? y : x;
            settledAt[made] = NONE;
            made++;
            return made - 1;
        }

        /** Makes the truth of a formula that of the rules of now; parts stand before what has them. */
        void settle(int formula) {
            want(formula);
            for (int at = formula; at >= 0; at--) {
                if (wanted[at] && kinds[at] != ATOM) {
                    want(xs[at]);
                    want(ys[at]);
                }
            }
            for (int at = 0; at <= formula; at++) {
                if (wanted[at]) {
                    wanted[at] = false;
                    evaluate(at);
                    settledAt[at] = machine.rules;
                }
            }
        }

        private void want(int formula) {
            if (settledAt[formula] != machine.rules) {
                wanted[formula] = true;
            }
        }

        private void evaluate(int formula) {
            truth.empty(formula);
            switch (kinds[formula]) {
                case ATOM:
                    evaluateAtom(formula);
                    break;
                case NOT:
                case AND:
                case OR:
                    evaluateWords(formula);
                    break;
                case NEXT:
                    evaluateNext(formula);
                    break;
                case UNTIL:
                    evaluateUntil(formula);
                    break;
                case ALWAYS:
                case AGAIN:
                    evaluateAgain(formula);
                    break;
                default:
                    break;
            }
        }

        private void evaluateAtom(int formula) {
            for (int state = 0; state < machine.states; state++) {
                if ((state & xs[formula]) == ys[formula]) {
                    truth.put(formula, state);
                }
            }
        }

        private void evaluateWords(int formula) {
            long[] words = truth.words;
            for (int at = 0; at < Sets.WORDS; at++) {
                long x = words[xs[formula] * Sets.WORDS + at];
                long y = words[ys[formula] * Sets.WORDS + at];
                long both = kinds[formula] == AND ? x & y : x | y;
                words[formula * Sets.WORDS + at] =
                        kinds[formula] == NOT ? machine.all.words[at] & ~x : both;
            }
        }

        private void evaluateNext(int formula) {
            for (int state = 0; state < machine.states; state++) {
                if (machine.successors.meets(state, truth, xs[formula])) {
                    truth.put(formula, state);
                }
            }
        }

        /** Finds, from the states of y back through those of x, how many steps each has to go. */
        private void evaluateUntil(int formula) {
            search.openAll(truth, xs[formula]);
            for (int state = 0; state < machine.states; state++) {
                search.distances[state] = NONE;
                if (truth.has(ys[formula], state)) {
                    search.open.drop(0, state);
                    search.find(state, 0);
                }
            }
            search.spread(machine.predecessors);
            putFound(formula);
            measured = formula;
        }

        private void putFound(int formula) {
            for (int at = 0; at < search.foundCount; at++) {
                truth.put(formula, search.found[at]);
            }
        }

        /**
         * An endless row comes to a RING in the end: states that all lead to one another. The states
         * of x are listed as they end on the way back; from the list's end on, a way forth through
         * what is still open is then just one ring, and the rings that it leads to came before it.
         */
        private void evaluateAgain(int formula) {
            measured = NONE;
            search.openAll(truth, xs[formula]);
            int listed = search.listEnded(machine.predecessors, machine.states);
            search.openAll(truth, xs[formula]);
            for (int at = listed - 1; at >= 0; at--) {
                int root = search.ended[at];
                if (search.open.has(0, root)) {
                    search.open.drop(0, root);
                    search.foundCount = 0;
                    search.find(root, 0);
                    search.spread(machine.successors);
                    evaluateRing(formula, root);
                }
            }
        }

        /** The ring found holds if it leads to a state that does, or can be gone round by way of y. */
        private void evaluateRing(int formula, int root) {
            boolean leads = false;
            boolean hasY = false;
            for (int at = 0; at < search.foundCount; at++) {
                int state = search.found[at];
                leads = leads || machine.successors.meets(state, truth, formula);
                hasY = hasY || truth.has(ys[formula], state);
            }
            // A state alone is a ring too, but one to go round only if it goes to itself.
            boolean goesRound = search.foundCount > 1 || machine.successors.has(root, root);
            if (leads || (hasY && goesRound)) {
                putFound(formula);
            }
        }

        /** How many states the witness of a settled UNTIL has; leaves its distances in the search. */
        int rowLength(int formula, int state) {
            if (measured != formula) {
                evaluateUntil(formula);
            }
            int distance = search.distances[state];
            return distance == NONE ? 0 : distance + 1;
        }

        /** State k of the witness that rowLength has measured last, k being less than its length. */
        int rowState(int state, int k) {
            int at = state;
            for (int step = 0; step < k; step++) {
                at = nearerState(at);
            }
            return at;
        }

        private int nearerState(int state) {
            int nearer = search.distances[state] - 1;
            int next = machine.successors.leastFrom(state, 0);
            for (int turn = 0; next != NONE && turn < MOST_STATES; turn++) {
                if (search.distances[next] == nearer) {
                    return next;
                }
                next = machine.successors.leastFrom(state, next + 1);
            }
            return state;
        }
    }
}
