/** Promises 1 to 4 and 10 with ordinary inputs; BuildEdgeTest has their boundaries. */
public final class BuildTest {
    private static final Check CHECK = new Check();

    public static void main(String[] args) {
        beginForgets();
        ruleNumbers();
        formulaNumbers();
        waysCountsUnlikeStates();
        CHECK.end();
    }

    private static void beginForgets() {
        StateLogic logic = new StateLogic();
        for (int bits = 8; bits >= 1; bits--) {
            int states = 1 << bits;
            logic.begin(bits);
            CHECK.same("begin: no steps", logic.ways(states / 2), 0);
            CHECK.same("begin: first formula", logic.formula(0, 0, 0), 0);
            CHECK.same("begin: all states", logic.count(0), states);
            CHECK.same("begin: second formula", logic.formula(4, 0, 0), 1);
            CHECK.same("begin: no next", logic.count(1), 0);
            CHECK.same("begin: first rule", logic.rule(0, 0, states - 1, states - 1), 0);
            CHECK.same("begin: a next", logic.count(1), states);
        }
    }

    private static void ruleNumbers() {
        StateLogic logic = new StateLogic();
        logic.begin(3);
        CHECK.same("rule 0", logic.rule(4, 4, 3, 2), 0);
        CHECK.same("rule 1, like rule 0", logic.rule(4, 4, 3, 2), 1);
        logic.formula(0, 7, 0);
        logic.formula(4, 0, 0);
        logic.formula(0, 7, 3);
        logic.formula(4, 2, 0);
        CHECK.same("6 goes to 0", Check.states(logic, 1, 8), "6");
        CHECK.same("5 goes to 3", Check.states(logic, 3, 8), "5");
        CHECK.same("rule 2", logic.rule(7, 2, 0, 3), 2);
        CHECK.same("2 and 5 go to 3", Check.states(logic, 3, 8), "2 5");
    }

    private static void formulaNumbers() {
        StateLogic logic = new StateLogic();
        logic.begin(2);
        CHECK.same("ATOM", logic.formula(0, 1, 1), 0);
        for (int kind = 1; kind <= 7; kind++) {
            CHECK.same("kind " + kind, logic.formula(kind, 0, 0), kind);
        }
        int[] counts = {2, 2, 2, 2, 0, 2, 0, 0};
        for (int formula = 0; formula < 8; formula++) {
            CHECK.same("count of kind " + formula, logic.count(formula), counts[formula]);
        }
    }

    private static void waysCountsUnlikeStates() {
        StateLogic logic = new StateLogic();
        logic.begin(8);
        logic.rule(0, 0, 255, 0);
        CHECK.same("to itself", logic.ways(255), 1);
        logic.rule(128, 128, 0, 3);
        CHECK.same("not by this rule", logic.ways(127), 1);
        CHECK.same("by two rules", logic.ways(128), 2);
        logic.rule(0, 0, 0, 3);
        CHECK.same("two rules to one state", logic.ways(128), 2);
        CHECK.same("3 goes to 3 by two rules", logic.ways(3), 1);
        CHECK.same("another state", logic.ways(127), 2);
    }
}
