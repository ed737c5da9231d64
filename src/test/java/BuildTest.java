/** Promises 1 to 4 and 10: a new object, begin, rule, formula, ways. */
public final class BuildTest {
    private static final Check CHECK = new Check();
    private static final Class<IllegalArgumentException> ARGUMENT = IllegalArgumentException.class;
    private static final Class<UnsupportedOperationException> FULL = UnsupportedOperationException.class;
    private static final Class<IndexOutOfBoundsException> INDEX = IndexOutOfBoundsException.class;

    public static void main(String[] args) {
        newObject();
        beginForgets();
        beginRefuses();
        ruleNumbers();
        ruleRefuses();
        ruleLimit();
        formulaNumbers();
        formulaRefuses();
        formulaLimit();
        waysCountsUnlikeStates();
        waysRefuses();
        CHECK.end();
    }

    private static void newObject() {
        StateLogic logic = new StateLogic();
        CHECK.same("NONE", StateLogic.NONE, -1);
        CHECK.same("new: ways(0)", logic.ways(0), 0);
        CHECK.same("new: ways(1)", logic.ways(1), 0);
        CHECK.refused("new: ways(2)", INDEX, () -> logic.ways(2));
        CHECK.refused("new: count(0)", INDEX, () -> logic.count(0));
        CHECK.same("new: the first formula", logic.formula(0, 0, 0), 0);
        CHECK.same("new: its count", logic.count(0), 2);
        CHECK.same("new: the first rule", logic.rule(0, 0, 0, 0), 0);
    }

    private static void beginForgets() {
        StateLogic logic = new StateLogic();
        for (int bits = 8; bits >= 1; bits--) {
            int states = 1 << bits;
            logic.begin(bits);
            CHECK.refused("begin: no formula", INDEX, () -> logic.count(0));
            CHECK.refused("begin: no part", ARGUMENT, () -> logic.formula(1, 0, 0));
            CHECK.refused("begin: states end", INDEX, () -> logic.ways(states));
            for (int state = 0; state < states; state++) {
                CHECK.same("begin: no steps", logic.ways(state), 0);
            }
            CHECK.same("begin: first formula", logic.formula(0, 0, 0), 0);
            CHECK.same("begin: all states", logic.count(0), states);
            CHECK.same("begin: second formula", logic.formula(4, 0, 0), 1);
            CHECK.same("begin: no next", logic.count(1), 0);
            CHECK.same("begin: first rule", logic.rule(0, 0, states - 1, states - 1), 0);
            CHECK.same("begin: a next", logic.count(1), states);
        }
    }

    private static void beginRefuses() {
        StateLogic logic = new StateLogic();
        logic.begin(2);
        logic.rule(0, 0, 3, 1);
        logic.formula(0, 1, 1);
        for (int bits : new int[] {0, 9, -1, 32, 33, Integer.MAX_VALUE, Integer.MIN_VALUE}) {
            CHECK.refused("begin(" + bits + ")", ARGUMENT, () -> logic.begin(bits));
        }
        CHECK.same("begin refused: rules stay", logic.ways(3), 1);
        CHECK.same("begin refused: formulas stay", logic.count(0), 2);
    }

    private static void ruleNumbers() {
        StateLogic logic = new StateLogic();
        logic.begin(3);
        CHECK.same("rule 0", logic.rule(4, 4, 3, 2), 0);
        CHECK.same("rule 1, like rule 0", logic.rule(4, 4, 3, 2), 1);
        logic.formula(0, 7, 0);
        logic.formula(4, 0, 0);
        logic.formula(0, 7, 3);
        logic.formula(4, 2, 0);
        CHECK.same("6 goes to 0", Check.states(logic, 1, 8), "6");
        CHECK.same("5 goes to 3", Check.states(logic, 3, 8), "5");
        CHECK.same("rule 2", logic.rule(7, 2, 0, 3), 2);
        CHECK.same("2 and 5 go to 3", Check.states(logic, 3, 8), "2 5");
    }

    private static void ruleRefuses() {
        StateLogic logic = new StateLogic();
        logic.begin(3);
        int[] wrong = {8, -1, 256, Integer.MAX_VALUE, Integer.MIN_VALUE};
        for (int bad : wrong) {
            CHECK.refused("rule's mask " + bad, ARGUMENT, () -> logic.rule(bad, 0, 0, 0));
            CHECK.refused("rule's value " + bad, ARGUMENT, () -> logic.rule(7, bad, 0, 0));
            CHECK.refused("rule's keep " + bad, ARGUMENT, () -> logic.rule(7, 0, bad, 0));
            CHECK.refused("rule's flip " + bad, ARGUMENT, () -> logic.rule(7, 0, 0, bad));
        }
        CHECK.refused("value beyond the mask", ARGUMENT, () -> logic.rule(5, 2, 7, 0));
        CHECK.refused("value beyond the mask", ARGUMENT, () -> logic.rule(5, 7, 7, 0));
        CHECK.refused("value without a mask", ARGUMENT, () -> logic.rule(0, 1, 7, 0));
        CHECK.same("refused rules have no number", logic.rule(7, 7, 7, 7), 0);
        CHECK.same("refused rules make no step", logic.ways(0), 0);
        CHECK.same("the rule makes one", logic.ways(7), 1);
    }

    private static void ruleLimit() {
        StateLogic logic = new StateLogic();
        logic.begin(6);
        for (int number = 0; number < 40; number++) {
            CHECK.same("rule " + number, logic.rule(63, 1, 0, number), number);
        }
        CHECK.same("40 rules, 40 ways", logic.ways(1), 40);
        CHECK.refused("rule 40", FULL, () -> logic.rule(63, 1, 0, 50));
        CHECK.refused("rule 40, wrong too", ARGUMENT, () -> logic.rule(63, 1, 0, 64));
        CHECK.refused("rule 40, wrong too", ARGUMENT, () -> logic.rule(1, 2, 0, 0));
        CHECK.same("still 40 ways", logic.ways(1), 40);
        logic.begin(6);
        CHECK.same("rules again", logic.rule(63, 1, 0, 50), 0);
        CHECK.same("one way", logic.ways(1), 1);
    }

    private static void formulaNumbers() {
        StateLogic logic = new StateLogic();
        logic.begin(2);
        CHECK.same("ATOM", logic.formula(0, 1, 1), 0);
        for (int kind = 1; kind <= 7; kind++) {
            CHECK.same("kind " + kind, logic.formula(kind, 0, 0), kind);
        }
        int next = 8;
        for (int kind : new int[] {1, 4, 6}) {
            for (int y : new int[] {99, -1, 60, Integer.MAX_VALUE, Integer.MIN_VALUE}) {
                CHECK.same("kind " + kind + " has no y", logic.formula(kind, 0, y), next);
                CHECK.same("its count", logic.count(next), kind == 1 ? 2 : 0);
                next++;
            }
        }
    }

    private static void formulaRefuses() {
        StateLogic logic = new StateLogic();
        logic.begin(3);
        CHECK.refused("no part there yet", ARGUMENT, () -> logic.formula(1, 0, 0));
        logic.formula(0, 6, 2);
        for (int kind : new int[] {-1, 8, Integer.MAX_VALUE, Integer.MIN_VALUE}) {
            CHECK.refused("kind " + kind, ARGUMENT, () -> logic.formula(kind, 0, 0));
        }
        for (int kind = 1; kind <= 7; kind++) {
            int of = kind;
            for (int bad : new int[] {1, -1, 60, Integer.MAX_VALUE, Integer.MIN_VALUE}) {
                CHECK.refused("kind " + kind + " of " + bad, ARGUMENT, () -> logic.formula(of, bad, 0));
                if (kind == 2 || kind == 3 || kind == 5 || kind == 7) {
                    CHECK.refused("kind " + kind + " and " + bad, ARGUMENT, () -> logic.formula(of, 0, bad));
                }
            }
        }
        for (int bad : new int[] {8, -1, Integer.MAX_VALUE, Integer.MIN_VALUE}) {
            CHECK.refused("ATOM's mask " + bad, ARGUMENT, () -> logic.formula(0, bad, 0));
            CHECK.refused("ATOM's value " + bad, ARGUMENT, () -> logic.formula(0, 7, bad));
        }
        CHECK.refused("ATOM's value beyond", ARGUMENT, () -> logic.formula(0, 5, 2));
        CHECK.same("refused formulas have no number", logic.formula(1, 0, 0), 1);
    }

    private static void formulaLimit() {
        StateLogic logic = new StateLogic();
        logic.formula(0, 1, 1);
        for (int number = 1; number < 60; number++) {
            CHECK.same("formula " + number, logic.formula(1, number - 1, 0), number);
        }
        CHECK.refused("formula 60", FULL, () -> logic.formula(0, 0, 0));
        CHECK.refused("formula 60", FULL, () -> logic.formula(7, 59, 59));
        CHECK.refused("formula 60, wrong too", ARGUMENT, () -> logic.formula(8, 0, 0));
        CHECK.refused("formula 60, wrong too", ARGUMENT, () -> logic.formula(1, 60, 0));
        CHECK.refused("formula 60, wrong too", ARGUMENT, () -> logic.formula(0, 0, 1));
        CHECK.same("a formula 60 deep", Check.states(logic, 59, 2), "0");
        CHECK.refused("formula 60 isn't there", INDEX, () -> logic.count(60));
        logic.begin(1);
        CHECK.same("formulas again", logic.formula(0, 0, 0), 0);
    }

    private static void waysCountsUnlikeStates() {
        StateLogic logic = new StateLogic();
        logic.begin(8);
        logic.rule(0, 0, 255, 0);
        CHECK.same("to itself", logic.ways(255), 1);
        logic.rule(128, 128, 0, 3);
        CHECK.same("not by this rule", logic.ways(127), 1);
        CHECK.same("by two rules", logic.ways(128), 2);
        logic.rule(0, 0, 0, 3);
        CHECK.same("two rules to one state", logic.ways(128), 2);
        CHECK.same("3 goes to 3 by two rules", logic.ways(3), 1);
        CHECK.same("another state", logic.ways(127), 2);
    }

    private static void waysRefuses() {
        StateLogic logic = new StateLogic();
        logic.begin(8);
        for (int bad : new int[] {256, -1, Integer.MAX_VALUE, Integer.MIN_VALUE}) {
            CHECK.refused("ways(" + bad + ")", INDEX, () -> logic.ways(bad));
        }
    }
}
