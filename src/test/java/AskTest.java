/** Promises 5 to 9 and what each kind of formula means; AskEdgeTest has their boundaries. */
public final class AskTest {
    private static final Check CHECK = new Check();

    public static void main(String[] args) {
        kindsWithoutSteps();
        next();
        until();
        always();
        again();
        againFromAnyOfARing();
        rulesOfNow();
        firstLooksFromAState();
        leastOfShortestRows();
        longestRow();
        longestRing();
        longestRowDown();
        witnessAfterOtherFormulas();
        CHECK.end();
    }

    /** A rule that takes one state to one state. */
    private static void step(StateLogic logic, int all, int from, int to) {
        logic.rule(all, from, 0, to);
    }

    private static void kindsWithoutSteps() {
        StateLogic logic = new StateLogic();
        logic.begin(3);
        logic.formula(0, 5, 4);
        logic.formula(0, 3, 2);
        logic.formula(1, 0, 0);
        logic.formula(2, 0, 1);
        logic.formula(3, 0, 1);
        CHECK.same("ATOM", Check.states(logic, 0, 8), "4 6");
        CHECK.same("ATOM", Check.states(logic, 1, 8), "2 6");
        CHECK.same("NOT", Check.states(logic, 2, 8), "0 1 2 3 5 7");
        CHECK.same("AND", Check.states(logic, 3, 8), "6");
        CHECK.same("OR", Check.states(logic, 4, 8), "2 4 6");
        CHECK.same("count of ATOM", logic.count(0), 2);
        CHECK.same("count of NOT", logic.count(2), 6);
        CHECK.same("count of AND", logic.count(3), 1);
        CHECK.same("count of OR", logic.count(4), 3);
    }

    private static void next() {
        StateLogic logic = new StateLogic();
        logic.begin(3);
        step(logic, 7, 0, 1);
        step(logic, 7, 0, 2);
        step(logic, 7, 3, 2);
        step(logic, 7, 2, 2);
        logic.formula(0, 7, 2);
        logic.formula(4, 0, 0);
        logic.formula(1, 0, 0);
        logic.formula(4, 2, 0);
        CHECK.same("NEXT", Check.states(logic, 1, 8), "0 2 3");
        CHECK.same("NEXT of NOT", Check.states(logic, 3, 8), "0");
    }

    private static void until() {
        StateLogic logic = new StateLogic();
        logic.begin(3);
        for (int state = 0; state < 4; state++) {
            step(logic, 7, state, state + 1);
        }
        logic.formula(0, 4, 0);
        logic.formula(0, 7, 4);
        logic.formula(5, 0, 1);
        CHECK.same("UNTIL: the last needn't have x", Check.states(logic, 2, 8), "0 1 2 3 4");
        CHECK.same("UNTIL: a row", Check.row(logic, 2, 0), "0 1 2 3 4");
        CHECK.same("UNTIL: of s alone", Check.row(logic, 2, 4), "4");
        CHECK.same("UNTIL: none", logic.length(2, 5), 0);
        logic.formula(0, 7, 2);
        logic.formula(1, 3, 0);
        logic.formula(5, 4, 1);
        CHECK.same("UNTIL: x fails on the way", Check.states(logic, 5, 8), "3 4");
        logic.formula(5, 1, 3);
        CHECK.same("UNTIL: y alone", Check.states(logic, 6, 8), "2");
    }

    private static void always() {
        StateLogic logic = new StateLogic();
        logic.begin(3);
        logic.formula(0, 0, 0);
        logic.formula(6, 0, 0);
        step(logic, 7, 0, 1);
        step(logic, 7, 1, 2);
        step(logic, 7, 2, 3);
        CHECK.same("ALWAYS: ended rows", Check.states(logic, 1, 8), "");
        step(logic, 7, 3, 1);
        step(logic, 7, 4, 4);
        step(logic, 7, 2, 7);
        CHECK.same("ALWAYS: a ring, a way to it, a state by itself", Check.states(logic, 1, 8), "0 1 2 3 4");
        logic.formula(0, 7, 3);
        logic.formula(1, 2, 0);
        logic.formula(6, 3, 0);
        CHECK.same("ALWAYS: the ring is broken", Check.states(logic, 4, 8), "4");
    }

    private static void again() {
        StateLogic logic = new StateLogic();
        logic.begin(4);
        step(logic, 15, 0, 1);
        step(logic, 15, 1, 2);
        step(logic, 15, 2, 1);
        step(logic, 15, 2, 3);
        step(logic, 15, 3, 4);
        step(logic, 15, 4, 4);
        step(logic, 15, 5, 6);
        step(logic, 15, 6, 5);
        logic.formula(0, 0, 0);
        logic.formula(0, 15, 2);
        logic.formula(7, 0, 1);
        CHECK.same("AGAIN: the ring of 2", Check.states(logic, 2, 16), "0 1 2");
        logic.formula(0, 15, 3);
        logic.formula(7, 0, 3);
        CHECK.same("AGAIN: 3 only once", Check.states(logic, 4, 16), "");
        logic.formula(0, 15, 4);
        logic.formula(7, 0, 5);
        CHECK.same("AGAIN: 4 by itself", Check.states(logic, 6, 16), "0 1 2 3 4");
        logic.formula(1, 3, 0);
        logic.formula(7, 7, 5);
        CHECK.same("AGAIN: no way round 3", Check.states(logic, 8, 16), "4");
        logic.formula(1, 1, 0);
        logic.formula(7, 9, 1);
        CHECK.same("AGAIN: y without x", Check.states(logic, 10, 16), "");
        logic.formula(0, 15, 7);
        logic.formula(7, 0, 11);
        CHECK.same("AGAIN: y that ends", Check.states(logic, 12, 16), "");
    }

    /** Three states go round; in turn each of them is the one with y, and the one with a way out. */
    private static void againFromAnyOfARing() {
        for (int one = 8; one <= 10; one++) {
            StateLogic logic = new StateLogic();
            logic.begin(4);
            step(logic, 15, 8, 9);
            step(logic, 15, 9, 10);
            step(logic, 15, 10, 8);
            step(logic, 15, one, 3);
            step(logic, 15, 3, 3);
            logic.formula(0, 0, 0);
            logic.formula(0, 15, 3);
            logic.formula(7, 0, 1);
            CHECK.same("AGAIN: the way out from " + one, Check.states(logic, 2, 16), "3 8 9 10");
            logic.formula(0, 15, one);
            logic.formula(7, 0, 3);
            CHECK.same("AGAIN: round by way of " + one, Check.states(logic, 4, 16), "8 9 10");
        }
    }

    private static void rulesOfNow() {
        StateLogic logic = new StateLogic();
        logic.begin(2);
        logic.formula(0, 3, 3);
        logic.formula(0, 0, 0);
        logic.formula(5, 1, 0);
        logic.formula(6, 1, 0);
        logic.formula(1, 2, 0);
        CHECK.same("before rules: UNTIL", Check.states(logic, 2, 4), "3");
        CHECK.same("before rules: NOT of it", logic.count(4), 3);
        CHECK.same("before rules: length", logic.length(2, 0), 0);
        step(logic, 3, 0, 2);
        CHECK.same("one rule: NOT of it", logic.count(4), 3);
        step(logic, 3, 2, 3);
        CHECK.same("two rules: length", logic.length(2, 0), 3);
        CHECK.same("two rules: NOT of it", logic.count(4), 1);
        step(logic, 3, 0, 3);
        CHECK.same("three rules: length", logic.length(2, 0), 2);
        CHECK.same("three rules: ALWAYS", logic.count(3), 0);
        step(logic, 3, 3, 0);
        CHECK.same("four rules: ALWAYS", logic.count(3), 3);
    }

    private static void firstLooksFromAState() {
        StateLogic logic = new StateLogic();
        logic.begin(8);
        logic.formula(0, 63, 63);
        for (int state = 0; state < 256; state++) {
            CHECK.same("first(0, " + state + ")", logic.first(0, state), state | 63);
        }
        logic.formula(0, 255, 64);
        CHECK.same("first: of one", logic.first(1, 0), 64);
        CHECK.same("first: itself", logic.first(1, 64), 64);
        CHECK.same("first: none from here on", logic.first(1, 65), StateLogic.NONE);
        logic.formula(2, 0, 1);
        CHECK.same("first: none", logic.first(2, 0), StateLogic.NONE);
        logic.begin(1);
        logic.formula(0, 1, 1);
        logic.formula(1, 0, 0);
        CHECK.same("first of NOT", logic.first(1, 0), 0);
        CHECK.same("no state beyond the last", logic.first(1, 1), StateLogic.NONE);
    }

    private static void leastOfShortestRows() {
        StateLogic logic = new StateLogic();
        logic.begin(4);
        int[][] steps = {
            {0, 9}, {0, 5}, {0, 3}, {0, 1}, {1, 2}, {2, 4}, {4, 15}, {3, 14}, {3, 8}, {5, 7}, {5, 6},
            {6, 15}, {7, 15}, {9, 1}, {9, 10}, {10, 15}, {14, 13}, {13, 15}, {15, 0},
        };
        for (int[] pair : steps) {
            step(logic, 15, pair[0], pair[1]);
        }
        logic.formula(0, 0, 0);
        logic.formula(0, 15, 15);
        logic.formula(5, 0, 1);
        CHECK.same("of shortest rows the least", Check.row(logic, 2, 0), "0 5 6 15");
        CHECK.same("shorter before least", Check.row(logic, 2, 9), "9 10 15");
        CHECK.same("s alone", Check.row(logic, 2, 15), "15");
        CHECK.same("no row", Check.row(logic, 2, 8), "");
        logic.formula(0, 15, 5);
        logic.formula(1, 3, 0);
        logic.formula(5, 4, 1);
        CHECK.same("x bars the least", Check.row(logic, 5, 0), "0 9 10 15");
        CHECK.same("x bars s", Check.row(logic, 5, 5), "");
    }

    /** Each state but 255 goes to the next one: the lowest bit that is 0 becomes 1, those below it 0. */
    private static StateLogic counter() {
        StateLogic logic = new StateLogic();
        logic.begin(8);
        for (int bit = 0; bit < 8; bit++) {
            int mask = (2 << bit) - 1;
            logic.rule(mask, mask >> 1, 255 & ~mask, 1 << bit);
        }
        return logic;
    }

    private static void longestRow() {
        StateLogic logic = counter();
        logic.formula(0, 0, 0);
        logic.formula(0, 255, 255);
        logic.formula(5, 0, 1);
        CHECK.same("256 states", logic.length(2, 0), 256);
        for (int k = 0; k < 256; k++) {
            CHECK.same("state " + k, logic.witness(2, 0, k), k);
        }
        logic.formula(6, 0, 0);
        logic.formula(7, 0, 1);
        CHECK.same("it ends", logic.count(3) + logic.count(4), 0);
        logic.rule(255, 255, 255, 0);
        CHECK.same("255 goes to itself", logic.count(3), 256);
        CHECK.same("255 again", logic.count(4), 256);
        logic.formula(1, 1, 0);
        logic.formula(7, 0, 5);
        CHECK.same("another than 255 again", logic.count(6), 0);
    }

    private static void longestRing() {
        StateLogic logic = counter();
        logic.rule(255, 255, 0, 0);
        logic.formula(0, 0, 0);
        logic.formula(0, 255, 128);
        logic.formula(1, 1, 0);
        logic.formula(6, 0, 0);
        logic.formula(7, 0, 1);
        logic.formula(6, 2, 0);
        logic.formula(7, 2, 0);
        logic.formula(5, 0, 1);
        CHECK.same("round all states", logic.count(3), 256);
        CHECK.same("by way of one", logic.count(4), 256);
        CHECK.same("not without it", logic.count(5) + logic.count(6), 0);
        CHECK.same("all but once round", logic.length(7, 129), 256);
        CHECK.same("past 255", logic.witness(7, 129, 127), 0);
        CHECK.same("to the last one", logic.witness(7, 129, 255), 128);
    }

    private static void longestRowDown() {
        StateLogic logic = new StateLogic();
        logic.begin(8);
        for (int bit = 0; bit < 8; bit++) {
            int mask = (2 << bit) - 1;
            logic.rule(mask, 1 << bit, 255 & ~mask, mask >> 1);
        }
        logic.rule(255, 0, 0, 0);
        logic.formula(0, 0, 0);
        logic.formula(0, 255, 0);
        logic.formula(1, 1, 0);
        logic.formula(7, 0, 1);
        logic.formula(7, 0, 2);
        logic.formula(6, 0, 0);
        logic.formula(5, 0, 1);
        CHECK.same("down to 0, which goes to itself", logic.count(3), 256);
        CHECK.same("another than 0 again", logic.count(4), 0);
        CHECK.same("all are endless", logic.count(5), 256);
        CHECK.same("256 states down", logic.length(6, 255), 256);
        CHECK.same("the last one", logic.witness(6, 255, 255), 0);
    }

    private static void witnessAfterOtherFormulas() {
        StateLogic logic = new StateLogic();
        logic.begin(2);
        logic.rule(0, 0, 3, 1);
        logic.rule(0, 0, 3, 2);
        logic.formula(0, 0, 0);
        logic.formula(0, 3, 3);
        logic.formula(0, 3, 0);
        logic.formula(5, 0, 1);
        logic.formula(5, 0, 2);
        logic.formula(7, 0, 2);
        CHECK.same("one UNTIL", Check.row(logic, 3, 0), "0 1 3");
        CHECK.same("another UNTIL", Check.row(logic, 4, 3), "3 1 0");
        CHECK.same("the one again", Check.row(logic, 3, 2), "2 3");
        CHECK.same("an AGAIN between", logic.count(5), 4);
        CHECK.same("the one once more", Check.row(logic, 3, 0), "0 1 3");
        logic.begin(2);
        logic.formula(0, 0, 0);
        logic.formula(0, 3, 0);
        logic.formula(0, 3, 3);
        logic.formula(5, 0, 1);
        CHECK.same("the same number, anew", Check.row(logic, 3, 0), "0");
        CHECK.same("no row to 0", logic.length(3, 3), 0);
    }
}
