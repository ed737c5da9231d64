import java.util.Random;

/** Many machines and formulas, always the same ones, held against PlainLogic (promises 2 to 10). */
public final class PlainLogicTest {
    private static final Check CHECK = new Check();
    private static final int RUNS = 400;

    public static void main(String[] args) {
        StateLogic used = new StateLogic();
        for (int run = 0; run < RUNS; run++) {
            // Every other run takes an object that has had another machine before.
            new PlainLogicTest(run, run % 2 == 0 ? new StateLogic() : used).compare();
        }
        CHECK.end();
    }

    private final int run;
    private final Random random;
    private final StateLogic logic;
    private final int bits;
    private final PlainLogic plain;
    private final boolean[] untils = new boolean[60];
    private int formulas;

    private PlainLogicTest(int run, StateLogic logic) {
        this.run = run;
        this.logic = logic;
        random = new Random(run);
        bits = run % 20 == 0 ? 8 : 1 + random.nextInt(6);
        plain = new PlainLogic(bits);
        logic.begin(bits);
    }

    private void compare() {
        int stages = bits == 8 ? 2 : 4;
        for (int stage = 0; stage < stages; stage++) {
            for (int more = random.nextInt(bits < 3 ? 2 : bits + 2); more > 0; more--) {
                addRule();
            }
            if (stage == 0 && random.nextInt(3) == 0) {
                addCounter();
            }
            for (int more = 3 + random.nextInt(10); more > 0; more--) {
                addFormula();
            }
            compareAnswers();
        }
    }

    private void addRule() {
        int all = (1 << bits) - 1;
        // Narrow masks join many states, wide ones few: both make other machines.
        int mask = random.nextInt(all + 1) | (random.nextBoolean() ? random.nextInt(all + 1) : 0);
        int value = mask & random.nextInt(all + 1);
        int keep = random.nextBoolean() ? all & ~(1 << random.nextInt(bits)) : random.nextInt(all + 1);
        int flip = random.nextBoolean() ? 1 << random.nextInt(bits) : random.nextInt(all + 1);
        logic.rule(mask, value, keep, flip);
        plain.rule(mask, value, keep, flip);
    }

    private void addCounter() {
        int all = (1 << bits) - 1;
        for (int bit = 0; bit < bits; bit++) {
            int mask = (2 << bit) - 1;
            logic.rule(mask, mask >> 1, all & ~mask, 1 << bit);
            plain.rule(mask, mask >> 1, all & ~mask, 1 << bit);
        }
    }

    private void addFormula() {
        int kind = formulas == 0 || random.nextInt(4) == 0 ? 0 : 1 + random.nextInt(7);
        int all = (1 << bits) - 1;
        int x = kind == 0 ? random.nextInt(all + 1) & random.nextInt(all + 1) : random.nextInt(formulas);
        int y = kind == 0 ? x & random.nextInt(all + 1) : random.nextInt(formulas);
        CHECK.same("run " + run + ": formula", logic.formula(kind, x, y), formulas);
        plain.formula(kind, x, y);
        untils[formulas] = kind == 5;
        formulas++;
    }

    private void compareAnswers() {
        boolean[][] steps = plain.steps();
        for (int state = 0; state < 1 << bits; state++) {
            int ways = 0;
            for (boolean goes : steps[state]) {
                ways += goes ? 1 : 0;
            }
            CHECK.same("run " + run + ": ways(" + state + ")", logic.ways(state), ways);
        }
        int asked = bits == 8 ? Math.min(4, formulas) : formulas;
        for (int turn = 0; turn < asked; turn++) {
            // Not in their order, so that parts are asked for before and behind what has them.
            int formula = bits == 8 ? formulas - 1 - turn : (turn * 53 + 3) % formulas;
            compareTruth(formula, steps);
            if (untils[formula]) {
                compareRows(formula, steps);
            }
        }
    }

    private void compareTruth(int formula, boolean[][] steps) {
        String call = "run " + run + ": formula " + formula;
        boolean[] truth = plain.truth(formula, steps);
        int count = 0;
        int first = StateLogic.NONE;
        for (int state = truth.length - 1; state >= 0; state--) {
            count += truth[state] ? 1 : 0;
            first = truth[state] ? state : first;
            CHECK.same(call + " holds in " + state, logic.holds(formula, state), truth[state]);
            CHECK.same(call + " first from " + state, logic.first(formula, state), first);
        }
        CHECK.same(call + " count", logic.count(formula), count);
    }

    private void compareRows(int formula, boolean[][] steps) {
        for (int asked = 0; asked < 6; asked++) {
            int state = random.nextInt(1 << bits);
            String call = "run " + run + ": formula " + formula + " from " + state;
            int[] row = plain.witness(formula, state, steps);
            CHECK.same(call + " length", logic.length(formula, state), row.length);
            for (int k = row.length - 1; k >= 0; k--) {
                CHECK.same(call + " state " + k, logic.witness(formula, state, k), row[k]);
            }
            CHECK.refused(call + " beyond", java.util.NoSuchElementException.class,
                    () -> logic.witness(formula, state, row.length));
        }
    }
}
