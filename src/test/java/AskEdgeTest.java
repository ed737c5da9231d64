import java.util.NoSuchElementException;

/** The sentences of 'Terms 2' and of promises 5 to 9 that name a boundary case. */
public final class AskEdgeTest {
    private static final Check CHECK = new Check();
    private static final Class<IllegalArgumentException> ARGUMENT = IllegalArgumentException.class;
    private static final Class<IndexOutOfBoundsException> INDEX = IndexOutOfBoundsException.class;
    private static final Class<NoSuchElementException> ELEMENT = NoSuchElementException.class;
    private static final int[] NO_FORMULA = {4, -1, 5, 59, 60, 256, Integer.MAX_VALUE, Integer.MIN_VALUE};
    private static final int[] NO_STATE = {8, -1, 9, -8, 256, 65536, Integer.MAX_VALUE, Integer.MIN_VALUE};

    public static void main(String[] args) {
        CHECK.run("Terms 1", "A ROW of states: one or more, each of which goes to the next one by some rule",
                AskEdgeTest::rowOfOneOrMore);
        CHECK.run("Terms 1", "an ENDLESS one has no last one", AskEdgeTest::endlessHasNoLast);
        CHECK.run("Terms 2", "FORMULAS are numbered from 0 as they come, at most 60",
                AskEdgeTest::numberedAsTheyCome);
        CHECK.run("Terms 2", "by the rules that there are now", AskEdgeTest::rulesOfNow);
        CHECK.run("Terms 2", "0 ATOM, with a mask and a value: s & mask is like the value",
                AskEdgeTest::atom);
        CHECK.run("Terms 2", "1 NOT x. 2 x AND y. 3 x OR y.", AskEdgeTest::notAndOr);
        CHECK.run("Terms 2", "4 NEXT: s goes to a state in which x holds.", AskEdgeTest::next);
        CHECK.run("Terms 2", "5 UNTIL: there is a row from s on whose last state has y (also of s alone)",
                AskEdgeTest::untilOfOneAlone);
        CHECK.run("Terms 2", "5 UNTIL: .. and all others x", AskEdgeTest::untilAllOthers);
        CHECK.run("Terms 2", "6 ALWAYS: there is an endless row from s on, all of whose states have x.",
                AskEdgeTest::always);
        CHECK.run("Terms 2", "7 AGAIN: there is such a one in which infinitely many have y, too.",
                AskEdgeTest::again);
        CHECK.run("Terms 2", "The WITNESS: of the rows told there one with the fewest states",
                AskEdgeTest::fewestStates);
        CHECK.run("Terms 2", "of several the one whose second state is the least, then the third one",
                AskEdgeTest::leastSecondThenThird);
        CHECK.run("Promise 5", "Whether a formula holds in a state.", AskEdgeTest::holdsFromFirstToLast);
        CHECK.run("Promise 5", "IndexOutOfBoundsException if there is no such formula",
                AskEdgeTest::holdsOfNoFormula);
        CHECK.run("Promise 5", "IndexOutOfBoundsException if there is no such .. state",
                AskEdgeTest::holdsInNoState);
        CHECK.run("Promise 6", "In how many states it holds.", AskEdgeTest::countFromNoneToAll);
        CHECK.run("Promise 6", "IndexOutOfBoundsException if there is no such formula.",
                AskEdgeTest::countOfNoFormula);
        CHECK.run("Promise 7", "The least state from one on in which it holds", AskEdgeTest::firstFromOneOn);
        CHECK.run("Promise 7", "NONE", AskEdgeTest::firstThereIsNone);
        CHECK.run("Promise 7", "IndexOutOfBoundsException as for holds().",
                AskEdgeTest::firstOfNoFormulaOrState);
        CHECK.run("Promise 8", "How many states the WITNESS of an UNTIL in a state has",
                AskEdgeTest::lengthFromOneToAll);
        CHECK.run("Promise 8", "0 if it doesn't hold there.", AskEdgeTest::lengthWhereItDoesNotHold);
        CHECK.run("Promise 8", "IndexOutOfBoundsException as for holds()",
                AskEdgeTest::lengthOfNoFormulaOrState);
        CHECK.run("Promise 8", "IllegalArgumentException if it is no UNTIL.", AskEdgeTest::lengthOfNoUntil);
        CHECK.run("Promise 9", "State k of it.", AskEdgeTest::witnessFromFirstToLast);
        CHECK.run("Promise 9", "Exceptions as for length() (IndexOutOfBoundsException)",
                AskEdgeTest::witnessOfNoFormulaOrState);
        CHECK.run("Promise 9", "Exceptions as for length() (IllegalArgumentException)",
                AskEdgeTest::witnessOfNoUntil);
        CHECK.run("Promise 9", "NoSuchElementException if it has no such one.",
                AskEdgeTest::witnessWithoutSuchAState);
        CHECK.end();
    }

    /** 0 goes to 3 and 3 to 7; formulas: 0 any of 8 states, 1 state 7, 2 a row to it, 3 a next state. */
    private static StateLogic small() {
        StateLogic logic = new StateLogic();
        logic.begin(3);
        step(logic, 7, 0, 3);
        step(logic, 7, 3, 7);
        logic.formula(0, 0, 0);
        logic.formula(0, 7, 7);
        logic.formula(5, 0, 1);
        logic.formula(4, 0, 0);
        return logic;
    }

    /** A rule that takes one state to one state. */
    private static void step(StateLogic logic, int all, int from, int to) {
        logic.rule(all, from, 0, to);
    }

    /** A machine of four bits in which each pair is a step; formula 0 holds everywhere, 1 nowhere. */
    private static StateLogic stepping(int[]... steps) {
        StateLogic logic = new StateLogic();
        logic.begin(4);
        for (int[] pair : steps) {
            step(logic, 15, pair[0], pair[1]);
        }
        logic.formula(0, 0, 0);
        logic.formula(1, 0, 0);
        return logic;
    }

    /** Eight bits; each state but 255 goes to the next one, by a rule for each lowest bit that is 0. */
    private static StateLogic counter() {
        StateLogic logic = new StateLogic();
        logic.begin(8);
        for (int bit = 0; bit < 8; bit++) {
            int mask = (2 << bit) - 1;
            logic.rule(mask, mask >> 1, 255 & ~mask, 1 << bit);
        }
        logic.formula(0, 0, 0);
        logic.formula(0, 255, 255);
        logic.formula(5, 0, 1);
        return logic;
    }

    /** An ATOM of one state. */
    private static int only(StateLogic logic, int state) {
        return logic.formula(0, 15, state);
    }

    private static int allBut(StateLogic logic, int state) {
        return logic.formula(1, only(logic, state), 0);
    }

    private static String where(StateLogic logic, int formula) {
        return Check.states(logic, formula, 16);
    }

    private static void rowOfOneOrMore() {
        StateLogic logic = stepping(new int[] {1, 2}, new int[] {2, 3}, new int[] {2, 0});
        int until = logic.formula(5, 0, only(logic, 3));
        CHECK.same("one", Check.row(logic, until, 3), "3");
        CHECK.same("two", Check.row(logic, until, 2), "2 3");
        CHECK.same("three, by unlike rules", Check.row(logic, until, 1), "1 2 3");
        CHECK.same("not against the steps", Check.row(logic, until, 0), "");
    }

    private static void endlessHasNoLast() {
        StateLogic logic = stepping(new int[] {0, 1}, new int[] {1, 2}, new int[] {5, 5}, new int[] {6, 7},
                new int[] {7, 6});
        int always = logic.formula(6, 0, 0);
        CHECK.same("one that goes nowhere", logic.holds(always, 2), false);
        CHECK.same("one that goes there", logic.holds(always, 0), false);
        CHECK.same("one that goes to itself", logic.holds(always, 5), true);
        CHECK.same("two that go to each other", logic.holds(always, 6), true);
        CHECK.same("no others", where(logic, always), "5 6 7");
    }

    private static void numberedAsTheyCome() {
        StateLogic logic = new StateLogic();
        CHECK.same("the first one", logic.formula(0, 1, 1), 0);
        CHECK.refused("one refused", ARGUMENT, () -> logic.formula(1, 1, 0));
        CHECK.same("the next one", logic.formula(1, 0, 0), 1);
        CHECK.same("one like it", logic.formula(1, 0, 0), 2);
        for (int number = 3; number < 60; number++) {
            CHECK.same("formula " + number, logic.formula(0, 0, 0), number);
        }
        CHECK.refused("formula 60", UnsupportedOperationException.class, () -> logic.formula(0, 0, 0));
        CHECK.same("formula 0 is what it was", Check.states(logic, 0, 2), "1");
        CHECK.same("formula 59", logic.count(59), 2);
    }

    private static void rulesOfNow() {
        StateLogic logic = stepping();
        int three = only(logic, 3);
        int next = logic.formula(4, three, 0);
        int until = logic.formula(5, 0, three);
        int always = logic.formula(6, 0, 0);
        int again = logic.formula(7, 0, three);
        int part = logic.formula(1, until, 0);
        CHECK.same("no rule: UNTIL", where(logic, until), "3");
        CHECK.same("no rule: the others", logic.count(next) + logic.count(always) + logic.count(again), 0);
        step(logic, 15, 0, 2);
        CHECK.same("0 goes to 2: length", logic.length(until, 0), 0);
        step(logic, 15, 2, 3);
        CHECK.same("2 to 3: NEXT", where(logic, next), "2");
        CHECK.same("2 to 3: length", logic.length(until, 0), 3);
        CHECK.same("2 to 3: NOT of it", logic.count(part), 13);
        step(logic, 15, 0, 3);
        CHECK.same("0 to 3: the row", Check.row(logic, until, 0), "0 3");
        CHECK.same("0 to 3: ALWAYS", where(logic, always), "");
        step(logic, 15, 3, 0);
        CHECK.same("3 to 0: ALWAYS", where(logic, always), "0 2 3");
        CHECK.same("3 to 0: AGAIN", where(logic, again), "0 2 3");
        CHECK.same("3 to 0: UNTIL is the same", Check.row(logic, until, 2), "2 3");
    }

    private static void atom() {
        StateLogic logic = stepping();
        CHECK.same("no mask", logic.count(0), 16);
        CHECK.same("state 0", where(logic, logic.formula(0, 15, 0)), "0");
        CHECK.same("the last state", where(logic, logic.formula(0, 15, 15)), "15");
        CHECK.same("bits that are 0", where(logic, logic.formula(0, 12, 0)), "0 1 2 3");
        CHECK.same("a bit that is 1", where(logic, logic.formula(0, 9, 8)), "8 10 12 14");
    }

    private static void notAndOr() {
        StateLogic logic = stepping();
        CHECK.same("NOT all", logic.count(1), 0);
        CHECK.same("NOT none", logic.count(logic.formula(1, 1, 0)), 16);
        CHECK.same("all AND none", logic.count(logic.formula(2, 0, 1)), 0);
        CHECK.same("all OR none", logic.count(logic.formula(3, 0, 1)), 16);
        CHECK.same("none OR none", logic.count(logic.formula(3, 1, 1)), 0);
        CHECK.same("all AND all", logic.count(logic.formula(2, 0, 0)), 16);
        int five = only(logic, 5);
        CHECK.same("5 OR 15", where(logic, logic.formula(3, five, only(logic, 15))), "5 15");
        CHECK.same("5 AND 5", where(logic, logic.formula(2, five, five)), "5");
    }

    private static void next() {
        StateLogic logic = stepping(new int[] {0, 0}, new int[] {1, 0}, new int[] {2, 1}, new int[] {1, 15});
        CHECK.same("NEXT all: not those that go nowhere", where(logic, logic.formula(4, 0, 0)), "0 1 2");
        CHECK.same("NEXT none", where(logic, logic.formula(4, 1, 0)), "");
        CHECK.same("itself, and one step", where(logic, logic.formula(4, only(logic, 0), 0)), "0 1");
        CHECK.same("one of two", where(logic, logic.formula(4, only(logic, 15), 0)), "1");
    }

    private static void untilOfOneAlone() {
        StateLogic logic = stepping();
        int nine = only(logic, 9);
        int until = logic.formula(5, 1, nine);
        CHECK.same("no rule, no x", where(logic, until), "9");
        CHECK.same("the row", Check.row(logic, until, 9), "9");
        step(logic, 15, 9, 9);
        CHECK.same("not round to itself", logic.length(until, 9), 1);
        CHECK.same("y nowhere", logic.count(logic.formula(5, 0, 1)), 0);
        CHECK.same("y everywhere", logic.count(logic.formula(5, 1, 0)), 16);
    }

    private static void untilAllOthers() {
        StateLogic logic = stepping(new int[] {0, 1}, new int[] {1, 2}, new int[] {2, 3}, new int[] {4, 2});
        int three = only(logic, 3);
        CHECK.same("x everywhere", where(logic, logic.formula(5, 0, three)), "0 1 2 3 4");
        CHECK.same("not the last", where(logic, logic.formula(5, allBut(logic, 3), three)), "0 1 2 3 4");
        CHECK.same("not s", where(logic, logic.formula(5, allBut(logic, 0), three)), "1 2 3 4");
        CHECK.same("not one on the way", where(logic, logic.formula(5, allBut(logic, 1), three)), "2 3 4");
        CHECK.same("not the last but one", where(logic, logic.formula(5, allBut(logic, 2), three)), "3");
    }

    private static void always() {
        StateLogic logic = stepping(new int[] {0, 1}, new int[] {1, 2});
        int always = logic.formula(6, 0, 0);
        CHECK.same("rows that end", where(logic, always), "");
        step(logic, 15, 3, 3);
        CHECK.same("one by itself", where(logic, always), "3");
        step(logic, 15, 2, 0);
        step(logic, 15, 2, 15);
        step(logic, 15, 4, 2);
        CHECK.same("round, one way out ending", where(logic, always), "0 1 2 3 4");
        CHECK.same("x nowhere", where(logic, logic.formula(6, 1, 0)), "");
        CHECK.same("not one of the ring", where(logic, logic.formula(6, allBut(logic, 1), 0)), "3");
        CHECK.same("not s", where(logic, logic.formula(6, allBut(logic, 4), 0)), "0 1 2 3");
        CHECK.same("not the one by itself", where(logic, logic.formula(6, allBut(logic, 3), 0)), "0 1 2 4");
    }

    private static void again() {
        StateLogic logic = stepping(new int[] {0, 1}, new int[] {1, 2}, new int[] {2, 1}, new int[] {2, 3},
                new int[] {3, 4}, new int[] {4, 4}, new int[] {5, 6}, new int[] {6, 15});
        CHECK.same("y in s alone", where(logic, logic.formula(7, 0, only(logic, 0))), "");
        CHECK.same("y once on the way", where(logic, logic.formula(7, 0, only(logic, 3))), "");
        CHECK.same("y at the end", where(logic, logic.formula(7, 0, only(logic, 15))), "");
        CHECK.same("y in the ring", where(logic, logic.formula(7, 0, only(logic, 2))), "0 1 2");
        int four = only(logic, 4);
        CHECK.same("y by itself", where(logic, logic.formula(7, 0, four)), "0 1 2 3 4");
        CHECK.same("y nowhere", where(logic, logic.formula(7, 0, 1)), "");
        CHECK.same("y everywhere", where(logic, logic.formula(7, 0, 0)), "0 1 2 3 4");
        CHECK.same("x not on the way", where(logic, logic.formula(7, allBut(logic, 3), four)), "4");
        CHECK.same("x not in s", where(logic, logic.formula(7, allBut(logic, 0), four)), "1 2 3 4");
        CHECK.same("y without x", where(logic, logic.formula(7, allBut(logic, 4), four)), "");
        CHECK.same("x nowhere", where(logic, logic.formula(7, 1, 0)), "");
    }

    private static void fewestStates() {
        StateLogic logic = stepping(new int[] {5, 0}, new int[] {0, 1}, new int[] {1, 15}, new int[] {5, 9},
                new int[] {9, 15}, new int[] {15, 2}, new int[] {2, 15});
        int until = logic.formula(5, 0, only(logic, 15));
        CHECK.same("two steps by the greater", Check.row(logic, until, 5), "5 9 15");
        step(logic, 15, 5, 15);
        CHECK.same("one step by the greatest", Check.row(logic, until, 5), "5 15");
        CHECK.same("no step", Check.row(logic, until, 15), "15");
        int either = logic.formula(3, only(logic, 15), only(logic, 1));
        CHECK.same("the nearer y", Check.row(logic, logic.formula(5, 0, either), 0), "0 1");
    }

    private static void leastSecondThenThird() {
        StateLogic logic = stepping(new int[] {0, 6}, new int[] {0, 4}, new int[] {4, 9}, new int[] {4, 8},
                new int[] {6, 1}, new int[] {8, 12}, new int[] {8, 11}, new int[] {9, 10}, new int[] {1, 2},
                new int[] {10, 15}, new int[] {11, 15}, new int[] {12, 15}, new int[] {2, 15},
                new int[] {0, 3}, new int[] {3, 0});
        int until = logic.formula(5, 0, only(logic, 15));
        CHECK.same("second, third and fourth", Check.row(logic, until, 0), "0 4 8 11 15");
        int bar = logic.formula(5, allBut(logic, 11), only(logic, 15));
        CHECK.same("the fourth has no x", Check.row(logic, bar, 0), "0 4 8 12 15");
        int barTwo = logic.formula(5, allBut(logic, 4), only(logic, 15));
        CHECK.same("the second has no x", Check.row(logic, barTwo, 0), "0 6 1 2 15");
        int ends = logic.formula(5, 0, logic.formula(0, 14, 12));
        CHECK.same("the last one counts too", Check.row(logic, ends, 4), "4 8 12");
        step(logic, 15, 8, 13);
        CHECK.same("12 before 13", Check.row(logic, ends, 8), "8 12");
    }

    /** The first and the last state of all machines, and those beside each 64th one. */
    private static void holdsFromFirstToLast() {
        for (int n = 1; n <= 8; n++) {
            int last = (1 << n) - 1;
            for (int state : new int[] {0, 1, 63, 64, 127, 128, 191, 192, last}) {
                if (state <= last) {
                    StateLogic logic = new StateLogic();
                    logic.begin(n);
                    logic.formula(0, last, state);
                    String due = String.valueOf(state);
                    CHECK.same(n + " bits, " + state + " alone", Check.states(logic, 0, last + 1), due);
                }
            }
        }
    }

    private static void holdsOfNoFormula() {
        StateLogic logic = small();
        for (int bad : NO_FORMULA) {
            CHECK.refused("holds(" + bad + ", 0)", INDEX, () -> logic.holds(bad, 0));
        }
        CHECK.same("the first one", logic.holds(0, 0), true);
        CHECK.same("the last one", logic.holds(3, 0), true);
    }

    private static void holdsInNoState() {
        StateLogic logic = small();
        for (int bad : NO_STATE) {
            CHECK.refused("holds(0, " + bad + ")", INDEX, () -> logic.holds(0, bad));
            CHECK.refused("holds(2, " + bad + ")", INDEX, () -> logic.holds(2, bad));
        }
        CHECK.same("the first one", logic.holds(1, 0), false);
        CHECK.same("the last one", logic.holds(1, 7), true);
    }

    private static void countFromNoneToAll() {
        for (int n = 1; n <= 8; n++) {
            StateLogic logic = new StateLogic();
            logic.begin(n);
            int last = (1 << n) - 1;
            logic.formula(0, 0, 0);
            logic.formula(1, 0, 0);
            logic.formula(0, last, 0);
            logic.formula(1, 2, 0);
            CHECK.same("all of " + n + " bits", logic.count(0), last + 1);
            CHECK.same("none of " + n + " bits", logic.count(1), 0);
            CHECK.same("one of " + n + " bits", logic.count(2), 1);
            CHECK.same("all but one of " + n + " bits", logic.count(3), last);
        }
    }

    private static void countOfNoFormula() {
        StateLogic logic = small();
        for (int bad : NO_FORMULA) {
            CHECK.refused("count(" + bad + ")", INDEX, () -> logic.count(bad));
        }
        CHECK.same("the first one", logic.count(0), 8);
        CHECK.same("the last one", logic.count(3), 2);
        StateLogic empty = new StateLogic();
        CHECK.refused("none at all", INDEX, () -> empty.count(0));
    }

    private static void firstFromOneOn() {
        StateLogic logic = new StateLogic();
        logic.begin(8);
        logic.formula(0, 63, 63);
        logic.formula(0, 63, 0);
        for (int state : new int[] {0, 1, 62, 63, 64, 65, 127, 128, 191, 192, 254, 255}) {
            CHECK.same("first(0, " + state + ")", logic.first(0, state), state | 63);
        }
        for (int state : new int[] {0, 1, 63, 64, 65, 128, 129, 191, 192}) {
            CHECK.same("first(1, " + state + ")", logic.first(1, state), (state + 63) & 192);
        }
    }

    private static void firstThereIsNone() {
        CHECK.same("the constant", StateLogic.NONE, -1);
        StateLogic logic = new StateLogic();
        logic.begin(8);
        logic.formula(0, 255, 64);
        logic.formula(2, 0, logic.formula(0, 255, 65));
        CHECK.same("at it", logic.first(0, 64), 64);
        CHECK.same("behind it", logic.first(0, 65), -1);
        CHECK.same("at the end", logic.first(0, 255), -1);
        CHECK.same("nowhere", logic.first(2, 0), -1);
        StateLogic few = small();
        int most = few.formula(1, 1, 0);
        CHECK.same("at the last but one of few states", few.first(most, 6), 6);
        CHECK.same("not beyond the last of few states", few.first(most, 7), -1);
    }

    private static void firstOfNoFormulaOrState() {
        StateLogic logic = small();
        for (int bad : NO_FORMULA) {
            CHECK.refused("first(" + bad + ", 0)", INDEX, () -> logic.first(bad, 0));
        }
        for (int bad : NO_STATE) {
            CHECK.refused("first(0, " + bad + ")", INDEX, () -> logic.first(0, bad));
        }
        CHECK.same("the last of both", logic.first(3, 7), StateLogic.NONE);
    }

    private static void lengthFromOneToAll() {
        StateLogic logic = counter();
        CHECK.same("the longest", logic.length(2, 0), 256);
        CHECK.same("the next one", logic.length(2, 1), 255);
        CHECK.same("two", logic.length(2, 254), 2);
        CHECK.same("s alone", logic.length(2, 255), 1);
        logic.rule(255, 255, 0, 0);
        int before = logic.formula(0, 255, 127);
        int until = logic.formula(5, 0, before);
        CHECK.same("all but once round", logic.length(until, 128), 256);
        CHECK.same("and not once more", logic.length(until, 127), 1);
    }

    private static void lengthWhereItDoesNotHold() {
        StateLogic logic = small();
        CHECK.same("no way there", logic.length(2, 1), 0);
        CHECK.same("a way there", logic.length(2, 0), 3);
        int none = logic.formula(1, 0, 0);
        CHECK.same("y nowhere", logic.length(logic.formula(5, 0, none), 7), 0);
        CHECK.same("x nowhere", logic.length(logic.formula(5, none, 1), 3), 0);
    }

    private static void lengthOfNoFormulaOrState() {
        StateLogic logic = small();
        for (int bad : NO_FORMULA) {
            CHECK.refused("length(" + bad + ", 0)", INDEX, () -> logic.length(bad, 0));
        }
        for (int bad : NO_STATE) {
            CHECK.refused("length(2, " + bad + ")", INDEX, () -> logic.length(2, bad));
        }
        CHECK.same("the last state", logic.length(2, 7), 1);
    }

    private static void lengthOfNoUntil() {
        StateLogic logic = small();
        CHECK.refused("of kind 0", ARGUMENT, () -> logic.length(1, 7));
        for (int kind : new int[] {1, 2, 3, 4, 6, 7}) {
            int other = logic.formula(kind, 2, 2);
            CHECK.refused("of kind " + kind, ARGUMENT, () -> logic.length(other, 0));
        }
        CHECK.same("of kind 5", logic.length(logic.formula(5, 2, 2), 0), 1);
    }

    private static void witnessFromFirstToLast() {
        StateLogic logic = counter();
        CHECK.same("state 0 is s", logic.witness(2, 0, 0), 0);
        CHECK.same("state 1", logic.witness(2, 0, 1), 1);
        CHECK.same("the last but one", logic.witness(2, 0, 254), 254);
        CHECK.same("the last", logic.witness(2, 0, 255), 255);
        CHECK.same("of s alone", logic.witness(2, 255, 0), 255);
        CHECK.same("from the middle", logic.witness(2, 100, 100), 200);
    }

    private static void witnessOfNoFormulaOrState() {
        StateLogic logic = small();
        for (int bad : NO_FORMULA) {
            CHECK.refused("witness(" + bad + ", 0, 0)", INDEX, () -> logic.witness(bad, 0, 0));
        }
        for (int bad : NO_STATE) {
            CHECK.refused("witness(2, " + bad + ", 0)", INDEX, () -> logic.witness(2, bad, 0));
        }
        CHECK.same("the last state", logic.witness(2, 7, 0), 7);
    }

    private static void witnessOfNoUntil() {
        StateLogic logic = small();
        CHECK.refused("of kind 0", ARGUMENT, () -> logic.witness(1, 7, 0));
        for (int kind : new int[] {1, 2, 3, 4, 6, 7}) {
            int other = logic.formula(kind, 2, 2);
            CHECK.refused("of kind " + kind, ARGUMENT, () -> logic.witness(other, 0, 0));
        }
        CHECK.same("of kind 5", logic.witness(logic.formula(5, 2, 2), 3, 0), 3);
    }

    private static void witnessWithoutSuchAState() {
        StateLogic logic = small();
        for (int bad : new int[] {3, -1, 4, 8, 256, Integer.MAX_VALUE, Integer.MIN_VALUE}) {
            CHECK.refused("witness(2, 0, " + bad + ")", ELEMENT, () -> logic.witness(2, 0, bad));
        }
        CHECK.same("the last one it has", logic.witness(2, 0, 2), 7);
        CHECK.refused("of s alone", ELEMENT, () -> logic.witness(2, 7, 1));
        CHECK.refused("no row, state 0", ELEMENT, () -> logic.witness(2, 1, 0));
        CHECK.refused("no row, state -1", ELEMENT, () -> logic.witness(2, 1, -1));
        StateLogic longest = counter();
        CHECK.refused("behind 256 states", ELEMENT, () -> longest.witness(2, 0, 256));
    }
}
