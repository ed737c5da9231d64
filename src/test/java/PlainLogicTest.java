import java.util.Random;
import java.util.function.Supplier;

/** Runs of 512 calls, always the same ones, right and wrong arguments mixed, held against PlainLogic. */
public final class PlainLogicTest {
    private static final Check CHECK = new Check();
    private static final int RUNS = 400;
    private static final int CALLS = 512;
    private static final int[] WRONG = {0, -1, 8, 9, 60, 255, 256, Integer.MAX_VALUE, Integer.MIN_VALUE};

    private final int run;
    private final Random random;
    private final StateLogic logic = new StateLogic();
    private final PlainLogic plain = new PlainLogic();
    private int bits = 1;
    private int calls;

    private PlainLogicTest(int run) {
        this.run = run;
        random = new Random(run);
    }

    public static void main(String[] args) {
        for (int run = 0; run < RUNS; run++) {
            new PlainLogicTest(run).compareRun();
        }
        CHECK.end();
    }

    private void compareRun() {
        begin(run % 40 == 0 ? 8 : 1 + random.nextInt(5));
        if (run % 3 == 0) {
            addCounter();
        }
        while (calls < CALLS) {
            callOne();
        }
    }

    private void callOne() {
        int turn = random.nextInt(200);
        // Some runs have rules enough to come to their limit, and then keep them.
        boolean manyRules = run % 5 == 0;
        if (turn == 0 && !manyRules) {
            begin(random.nextInt(10) == 0 ? 6 : 1 + random.nextInt(5));
        } else if (turn < (manyRules ? 25 : 14)) {
            rule();
        } else if (turn < 45) {
            formula();
        } else {
            ask(turn % 6);
        }
    }

    private void begin(int right) {
        int n = orWrong(right);
        compare("begin(" + n + ")", () -> {
            logic.begin(n);
            return 0;
        }, () -> {
            plain.begin(n);
            return 0;
        });
        bits = n >= 1 && n <= 8 ? n : bits;
    }

    private void rule() {
        // Narrow masks join many states, wide ones few: both make other machines.
        int mask = orWrong(someState() | (random.nextBoolean() ? someState() : 0));
        int value = orWrong(random.nextInt(20) == 0 ? someState() : mask & someState());
        int bit = 1 << random.nextInt(bits);
        int keep = orWrong(random.nextBoolean() ? ((1 << bits) - 1) & ~bit : someState());
        int flip = orWrong(random.nextBoolean() ? bit : someState());
        rule(mask, value, keep, flip);
    }

    private void rule(int mask, int value, int keep, int flip) {
        compare("rule(" + mask + ", " + value + ", " + keep + ", " + flip + ")",
                () -> logic.rule(mask, value, keep, flip), () -> plain.rule(mask, value, keep, flip));
    }

    /** Each state goes to the next one, but for the last: long rows. */
    private void addCounter() {
        int all = (1 << bits) - 1;
        for (int bit = 0; bit < bits; bit++) {
            int mask = (2 << bit) - 1;
            rule(mask, mask >> 1, all & ~mask, 1 << bit);
        }
    }

    private void formula() {
        int kind = orWrong(plain.formulas() == 0 || random.nextInt(4) == 0 ? 0 : 1 + random.nextInt(7));
        int mask = someState() & someState();
        int x = orWrong(kind == 0 ? mask : someFormula());
        int y = orWrong(kind == 0 ? mask & someState() : someFormula());
        compare("formula(" + kind + ", " + x + ", " + y + ")",
                () -> logic.formula(kind, x, y), () -> plain.formula(kind, x, y));
    }

    private void ask(int what) {
        int formula = orWrong(what == 3 || what == 4 ? someUntil() : someFormula());
        int state = orWrong(someState());
        int k = orWrong(random.nextInt(random.nextBoolean() ? 3 : 1 << bits));
        String asked = formula + ", " + state;
        switch (what) {
            case 0 -> compare("holds(" + asked + ")",
                    () -> logic.holds(formula, state), () -> plain.holds(formula, state));
            case 1 -> compare("count(" + formula + ")",
                    () -> logic.count(formula), () -> plain.count(formula));
            case 2 -> compare("first(" + asked + ")",
                    () -> logic.first(formula, state), () -> plain.first(formula, state));
            case 3 -> compare("length(" + asked + ")",
                    () -> logic.length(formula, state), () -> plain.length(formula, state));
            case 4 -> compare("witness(" + asked + ", " + k + ")",
                    () -> logic.witness(formula, state, k), () -> plain.witness(formula, state, k));
            default -> compare("ways(" + state + ")", () -> logic.ways(state), () -> plain.ways(state));
        }
    }

    private int someState() {
        return random.nextInt(1 << bits);
    }

    private int someFormula() {
        return random.nextInt(Math.max(1, plain.formulas()));
    }

    /** An UNTIL if one is met soon, else another formula. */
    private int someUntil() {
        int formula = someFormula();
        for (int tries = 0; tries < 8 && !plain.isUntil(formula); tries++) {
            formula = someFormula();
        }
        return formula;
    }

    private int orWrong(int right) {
        return random.nextInt(60) == 0 ? WRONG[random.nextInt(WRONG.length)] : right;
    }

    private void compare(String call, Supplier<Object> got, Supplier<Object> due) {
        calls++;
        CHECK.same("run " + run + ", call " + calls + ", " + call, outcome(got), outcome(due));
    }

    private static String outcome(Supplier<Object> call) {
        try {
            return String.valueOf(call.get());
        } catch (RuntimeException thrown) {
            return thrown.getClass().getName();
        }
    }
}
