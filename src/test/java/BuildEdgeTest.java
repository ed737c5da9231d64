/** The sentences of 'Terms 1', of promises 1 to 4 and of promise 10 that name a boundary case. */
public final class BuildEdgeTest {
    private static final Check CHECK = new Check();
    private static final Class<IllegalArgumentException> ARGUMENT = IllegalArgumentException.class;
    private static final Class<UnsupportedOperationException> FULL = UnsupportedOperationException.class;
    private static final Class<IndexOutOfBoundsException> INDEX = IndexOutOfBoundsException.class;

    public static void main(String[] args) {
        CHECK.run("Terms 1", "There are 1 .. 8 BITS, n; STATES are 0 .. 2^n - 1",
                BuildEdgeTest::bitsAndStates);
        CHECK.run("Terms 1", "a state s with s & mask like the value GOES to (s & keep) ^ flip",
                BuildEdgeTest::goes);
        CHECK.run("Terms 1", "There are at most 40", BuildEdgeTest::atMostFortyRules);
        CHECK.run("Terms", "The constants: `NONE = -1`", BuildEdgeTest::constants);
        CHECK.run("Promise 1", "One bit, no rules, no formulas.", BuildEdgeTest::newObject);
        CHECK.run("Promise 1", "One bit, no rules, no formulas (whatever another object has)",
                BuildEdgeTest::newObjectBesideAnother);
        CHECK.run("Promise 2", "A machine of n bits, no rules, no formulas.", BuildEdgeTest::beginAnew);
        CHECK.run("Promise 2", "IllegalArgumentException if n isn't 1 .. 8.",
                BuildEdgeTest::beginWithoutSuchBits);
        CHECK.run("Promise 3", "A rule: its number.", BuildEdgeTest::ruleNumbers);
        CHECK.run("Promise 3", "IllegalArgumentException if one of the four isn't a state",
                BuildEdgeTest::ruleOfNoState);
        CHECK.run("Promise 3", "or the value has a bit that the mask hasn't",
                BuildEdgeTest::ruleOfAValueBeyondTheMask);
        CHECK.run("Promise 3", "UnsupportedOperationException if there are 40.",
                BuildEdgeTest::ruleWhenThereAreForty);
        CHECK.run("Promise 4", "A formula (of kind 0 the mask and the value): its number.",
                BuildEdgeTest::formulaNumbers);
        CHECK.run("Promise 4", "IllegalArgumentException if there is no such kind",
                BuildEdgeTest::formulaOfNoKind);
        CHECK.run("Promise 4", "or a formula that it has isn't there", BuildEdgeTest::formulaOfAPartNotThere);
        CHECK.run("Terms 2", "those of 1, 4, 6 only x", BuildEdgeTest::formulaOfOnePart);
        CHECK.run("Promise 4", "or, of kind 0, as for a rule (one isn't a state)",
                BuildEdgeTest::atomOfNoState);
        CHECK.run("Promise 4", "or, of kind 0, as for a rule (the value has a bit that the mask hasn't)",
                BuildEdgeTest::atomOfAValueBeyondTheMask);
        CHECK.run("Promise 4", "UnsupportedOperationException if there are 60.",
                BuildEdgeTest::formulaWhenThereAreSixty);
        CHECK.run("Promise 10", "To how many unlike states a state goes.", BuildEdgeTest::waysToUnlikeStates);
        CHECK.run("Promise 10", "IndexOutOfBoundsException if there is no such state.",
                BuildEdgeTest::waysOfNoState);
        CHECK.end();
    }

    /** What is no state of a machine of so many bits: beside the ends, and what a narrower type makes one. */
    private static int[] noStates(int bits) {
        int end = 1 << bits;
        return new int[] {end, -1, end + 1, -end, 256, 65536, Integer.MAX_VALUE, Integer.MIN_VALUE};
    }

    private static void bitsAndStates() {
        for (int n = 1; n <= 8; n++) {
            StateLogic logic = new StateLogic();
            logic.begin(n);
            int last = (1 << n) - 1;
            CHECK.same("ways(0)", logic.ways(0), 0);
            CHECK.same("ways(" + last + ")", logic.ways(last), 0);
            CHECK.refused("ways(" + (last + 1) + ")", INDEX, () -> logic.ways(last + 1));
            CHECK.refused("ways(-1)", INDEX, () -> logic.ways(-1));
            CHECK.same("an ATOM of the last state", logic.formula(0, last, last), 0);
            CHECK.same("all but it", logic.formula(1, 0, 0), 1);
            CHECK.same("it holds in the last", logic.holds(0, last), true);
            CHECK.same("count of it", logic.count(0), 1);
            CHECK.same("count of all but it", logic.count(1), last);
            CHECK.same("a rule of the last state", logic.rule(last, last, last, last), 0);
            CHECK.same("its ways", logic.ways(last), 1);
        }
    }

    private static void goes() {
        CHECK.same("each to itself", targets(0, 0, 7, 0), "0 1 2 3 4 5 6 7");
        CHECK.same("all to 0", targets(0, 0, 0, 0), "0 0 0 0 0 0 0 0");
        CHECK.same("all to the last", targets(0, 0, 0, 7), "7 7 7 7 7 7 7 7");
        CHECK.same("each to what it isn't", targets(0, 0, 7, 7), "7 6 5 4 3 2 1 0");
        CHECK.same("a bit flipped that isn't kept", targets(0, 0, 6, 1), "1 1 3 3 5 5 7 7");
        CHECK.same("a bit flipped that is kept", targets(0, 0, 1, 1), "1 0 1 0 1 0 1 0");
        CHECK.same("the last state round to 0", targets(7, 7, 7, 7), "- - - - - - - 0");
        CHECK.same("state 0 alone", targets(7, 0, 7, 7), "7 - - - - - - -");
        CHECK.same("mask and value unlike", targets(5, 4, 6, 3), "- - - - 7 - 5 -");
        CHECK.same("a value of 0", targets(5, 0, 7, 0), "0 - 2 - - - - -");
    }

    /** Where each of eight states goes by one rule, a dash being nowhere. */
    private static String targets(int mask, int value, int keep, int flip) {
        StateLogic logic = new StateLogic();
        logic.begin(3);
        logic.rule(mask, value, keep, flip);
        for (int target = 0; target < 8; target++) {
            logic.formula(0, 7, target);
            logic.formula(4, 2 * target, 0);
        }
        StringBuilder text = new StringBuilder();
        for (int state = 0; state < 8; state++) {
            String found = "";
            for (int target = 0; target < 8; target++) {
                found += logic.holds(2 * target + 1, state) ? target : "";
            }
            text.append(state == 0 ? "" : " ").append(found.isEmpty() ? "-" : found);
        }
        return text.toString();
    }

    private static void atMostFortyRules() {
        StateLogic logic = new StateLogic();
        logic.begin(8);
        for (int number = 0; number < 40; number++) {
            CHECK.same("rule " + number, logic.rule(0, 0, 0, 255 - number), number);
            CHECK.same("so many ways", logic.ways(0), number + 1);
        }
        CHECK.refused("one more", FULL, () -> logic.rule(0, 0, 0, 0));
        CHECK.same("still 40 ways", logic.ways(255), 40);
    }

    private static void constants() {
        CHECK.same("NONE", StateLogic.NONE, -1);
    }

    private static void newObject() {
        StateLogic logic = new StateLogic();
        CHECK.same("no rule from 0", logic.ways(0), 0);
        CHECK.same("no rule from 1", logic.ways(1), 0);
        CHECK.refused("no state 2", INDEX, () -> logic.ways(2));
        CHECK.refused("no formula 0", INDEX, () -> logic.count(0));
        CHECK.refused("no mask 2", ARGUMENT, () -> logic.formula(0, 2, 0));
        CHECK.same("the first formula", logic.formula(0, 0, 0), 0);
        CHECK.same("it holds in both states", logic.count(0), 2);
        CHECK.same("the first rule", logic.rule(1, 1, 1, 1), 0);
        CHECK.same("its way", logic.ways(1), 1);
    }

    private static void newObjectBesideAnother() {
        StateLogic other = new StateLogic();
        other.begin(8);
        for (int number = 0; number < 40; number++) {
            other.rule(0, 0, 0, number);
        }
        for (int number = 0; number < 60; number++) {
            other.formula(0, 0, 0);
        }
        StateLogic logic = new StateLogic();
        CHECK.same("no rule", logic.ways(1), 0);
        CHECK.refused("no state 2", INDEX, () -> logic.ways(2));
        CHECK.refused("no formula 0", INDEX, () -> logic.count(0));
        CHECK.same("the first formula", logic.formula(0, 1, 1), 0);
        CHECK.same("the first rule", logic.rule(0, 0, 1, 0), 0);
        CHECK.same("the other one's ways", other.ways(255), 40);
        CHECK.same("the other one's formula 0", other.count(0), 256);
    }

    private static void beginAnew() {
        StateLogic logic = new StateLogic();
        for (int n : new int[] {8, 1, 8, 8}) {
            int last = (1 << n) - 1;
            logic.begin(n);
            CHECK.refused("no formula", INDEX, () -> logic.holds(0, 0));
            CHECK.refused("no part", ARGUMENT, () -> logic.formula(1, 0, 0));
            CHECK.refused("no state beyond", INDEX, () -> logic.ways(last + 1));
            CHECK.same("the first formula", logic.formula(0, 0, 0), 0);
            CHECK.same("its states", logic.count(0), last + 1);
            CHECK.same("NEXT", logic.formula(4, 0, 0), 1);
            CHECK.same("no state goes to one", logic.count(1), 0);
            CHECK.same("UNTIL", logic.formula(5, 0, 1), 2);
            CHECK.same("no row", logic.length(2, last), 0);
            CHECK.same("the last state", logic.formula(0, last, last), 3);
            CHECK.same("NOT", logic.formula(1, 3, 0), 4);
            CHECK.same("all but the last state", logic.count(4), last);
            CHECK.same("UNTIL the last state", logic.formula(5, 0, 3), 5);
            CHECK.same("no state goes there", logic.count(5), 1);
            for (int number = 0; number < 40; number++) {
                CHECK.same("rule " + number, logic.rule(0, 0, last, last), number);
            }
            CHECK.same("now all go to one", logic.count(1), last + 1);
            CHECK.same("a row of one", logic.length(2, last), 1);
            for (int number = 6; number < 60; number++) {
                CHECK.same("formula " + number, logic.formula(0, last, 0), number);
            }
        }
    }

    private static void beginWithoutSuchBits() {
        StateLogic logic = new StateLogic();
        int[] wrong = {0, 9, -1, -8, 32, 33, 256, 257, 65537, Integer.MAX_VALUE, Integer.MIN_VALUE};
        for (int n : wrong) {
            CHECK.refused("begin(" + n + ")", ARGUMENT, () -> logic.begin(n));
        }
        logic.begin(1);
        CHECK.refused("one bit: ways(2)", INDEX, () -> logic.ways(2));
        logic.begin(8);
        CHECK.same("eight bits: ways(255)", logic.ways(255), 0);
    }

    private static void ruleNumbers() {
        StateLogic logic = new StateLogic();
        CHECK.same("the first one", logic.rule(0, 0, 1, 1), 0);
        CHECK.same("one like it", logic.rule(0, 0, 1, 1), 1);
        CHECK.refused("one refused", ARGUMENT, () -> logic.rule(0, 1, 1, 1));
        CHECK.same("the next one", logic.rule(1, 1, 1, 0), 2);
        logic.begin(1);
        CHECK.same("the first one after begin()", logic.rule(1, 1, 1, 0), 0);
    }

    private static void ruleOfNoState() {
        for (int n : new int[] {1, 3, 8}) {
            StateLogic logic = new StateLogic();
            logic.begin(n);
            int last = (1 << n) - 1;
            for (int bad : noStates(n)) {
                CHECK.refused("mask " + bad, ARGUMENT, () -> logic.rule(bad, 0, 0, 0));
                CHECK.refused("value " + bad, ARGUMENT, () -> logic.rule(last, bad, 0, 0));
                CHECK.refused("mask and value " + bad, ARGUMENT, () -> logic.rule(bad, bad, 0, 0));
                CHECK.refused("keep " + bad, ARGUMENT, () -> logic.rule(0, 0, bad, 0));
                CHECK.refused("flip " + bad, ARGUMENT, () -> logic.rule(0, 0, 0, bad));
            }
            CHECK.same("all four the last state", logic.rule(last, last, last, last), 0);
            CHECK.same("all four 0", logic.rule(0, 0, 0, 0), 1);
        }
    }

    private static void ruleOfAValueBeyondTheMask() {
        StateLogic logic = new StateLogic();
        logic.begin(3);
        int taken = 0;
        for (int mask = 0; mask < 8; mask++) {
            for (int value = 0; value < 8; value++) {
                int m = mask;
                int v = value;
                String call = "rule(" + m + ", " + v + ", 7, 0)";
                if ((mask | value) == mask) {
                    CHECK.same(call, logic.rule(m, v, 7, 0), taken);
                    taken++;
                } else {
                    CHECK.refused(call, ARGUMENT, () -> logic.rule(m, v, 7, 0));
                }
            }
        }
        CHECK.same("so many were taken", taken, 27);
    }

    private static void ruleWhenThereAreForty() {
        StateLogic logic = new StateLogic();
        for (int number = 0; number < 40; number++) {
            CHECK.same("rule " + number + ", like the others", logic.rule(0, 0, 1, 1), number);
        }
        CHECK.refused("like the others", FULL, () -> logic.rule(0, 0, 1, 1));
        CHECK.refused("unlike them", FULL, () -> logic.rule(1, 1, 0, 1));
        CHECK.same("none was added", logic.ways(1), 1);
        logic.begin(1);
        CHECK.same("after begin()", logic.rule(1, 1, 0, 1), 0);
    }

    private static void formulaNumbers() {
        StateLogic logic = new StateLogic();
        logic.begin(8);
        CHECK.same("mask and value aren't formulas", logic.formula(0, 255, 254), 0);
        for (int kind = 1; kind <= 7; kind++) {
            CHECK.same("of kind " + kind, logic.formula(kind, kind - 1, 0), kind);
        }
        CHECK.same("the mask comes first, then the value", logic.first(0, 0), 254);
        CHECK.same("no other state", logic.count(0), 1);
        logic.begin(8);
        CHECK.same("the first one after begin()", logic.formula(0, 255, 0), 0);
    }

    private static void formulaOfNoKind() {
        StateLogic logic = new StateLogic();
        logic.formula(0, 0, 0);
        for (int kind : new int[] {-1, 8, 9, 256, 65536, Integer.MAX_VALUE, Integer.MIN_VALUE}) {
            CHECK.refused("kind " + kind, ARGUMENT, () -> logic.formula(kind, 0, 0));
        }
        CHECK.same("kind 0", logic.formula(0, 0, 0), 1);
        CHECK.same("kind 7", logic.formula(7, 0, 0), 2);
    }

    private static void formulaOfAPartNotThere() {
        for (int kind = 1; kind <= 7; kind++) {
            StateLogic logic = new StateLogic();
            int of = kind;
            CHECK.refused("kind " + of + ", none there", ARGUMENT, () -> logic.formula(of, 0, 0));
            logic.formula(0, 0, 0);
            logic.formula(0, 1, 0);
            for (int bad : new int[] {2, -1, 3, 59, 60, 256, Integer.MAX_VALUE, Integer.MIN_VALUE}) {
                CHECK.refused("kind " + of + ", x " + bad, ARGUMENT, () -> logic.formula(of, bad, 1));
                if (of == 2 || of == 3 || of == 5 || of == 7) {
                    CHECK.refused("kind " + of + ", y " + bad, ARGUMENT, () -> logic.formula(of, 1, bad));
                }
            }
            CHECK.same("kind " + of + ", the last one's", logic.formula(of, 1, 1), 2);
        }
    }

    private static void formulaOfOnePart() {
        StateLogic logic = new StateLogic();
        logic.rule(1, 1, 1, 0);
        logic.formula(0, 1, 1);
        int number = 1;
        for (int kind : new int[] {1, 4, 6}) {
            for (int y : new int[] {0, number, 60, -1, Integer.MAX_VALUE, Integer.MIN_VALUE}) {
                CHECK.same("kind " + kind + ", y " + y, logic.formula(kind, 0, y), number);
                CHECK.same("where it holds", Check.states(logic, number, 2), kind == 1 ? "0" : "1");
                number++;
            }
        }
    }

    private static void atomOfNoState() {
        for (int n : new int[] {1, 3, 8}) {
            StateLogic logic = new StateLogic();
            logic.begin(n);
            int last = (1 << n) - 1;
            for (int bad : noStates(n)) {
                CHECK.refused("mask " + bad, ARGUMENT, () -> logic.formula(0, bad, 0));
                CHECK.refused("value " + bad, ARGUMENT, () -> logic.formula(0, last, bad));
                CHECK.refused("both " + bad, ARGUMENT, () -> logic.formula(0, bad, bad));
            }
            CHECK.same("the last state", logic.formula(0, last, last), 0);
            CHECK.same("mask 0", logic.formula(0, 0, 0), 1);
            CHECK.same("it holds everywhere", logic.count(1), last + 1);
        }
    }

    private static void atomOfAValueBeyondTheMask() {
        StateLogic logic = new StateLogic();
        logic.begin(3);
        int taken = 0;
        for (int mask = 0; mask < 8; mask++) {
            for (int value = 0; value < 8; value++) {
                int m = mask;
                int v = value;
                String call = "formula(0, " + m + ", " + v + ")";
                if ((mask | value) == mask) {
                    CHECK.same(call, logic.formula(0, m, v), taken);
                    CHECK.same("the count of it", logic.count(taken), 8 >> Integer.bitCount(mask));
                    taken++;
                } else {
                    CHECK.refused(call, ARGUMENT, () -> logic.formula(0, m, v));
                }
            }
        }
        CHECK.same("so many were taken", taken, 27);
    }

    private static void formulaWhenThereAreSixty() {
        StateLogic logic = new StateLogic();
        CHECK.same("formula 0", logic.formula(0, 1, 1), 0);
        for (int number = 1; number < 60; number++) {
            CHECK.same("formula " + number, logic.formula(1, number - 1, 0), number);
        }
        CHECK.refused("one more ATOM", FULL, () -> logic.formula(0, 0, 0));
        for (int kind = 1; kind <= 7; kind++) {
            int of = kind;
            CHECK.refused("one more of kind " + kind, FULL, () -> logic.formula(of, 59, 0));
        }
        CHECK.refused("formula 60 isn't there", INDEX, () -> logic.count(60));
        CHECK.same("the last one, of all the others", Check.states(logic, 59, 2), "0");
        logic.begin(1);
        CHECK.same("after begin()", logic.formula(0, 1, 1), 0);
    }

    private static void waysToUnlikeStates() {
        StateLogic logic = new StateLogic();
        logic.begin(6);
        CHECK.same("no rule", logic.ways(5), 0);
        logic.rule(63, 4, 0, 9);
        CHECK.same("a rule for another", logic.ways(5), 0);
        logic.rule(63, 5, 63, 0);
        CHECK.same("to itself", logic.ways(5), 1);
        logic.rule(0, 0, 0, 5);
        CHECK.same("to itself by another rule", logic.ways(5), 1);
        CHECK.same("4 goes to 9 and 5", logic.ways(4), 2);
        for (int flip = 63; flip > 26; flip--) {
            logic.rule(0, 0, 0, flip);
        }
        CHECK.same("40 rules", logic.ways(5), 38);
        CHECK.same("40 rules, the last state", logic.ways(63), 38);
    }

    private static void waysOfNoState() {
        for (int n : new int[] {1, 3, 8}) {
            StateLogic logic = new StateLogic();
            logic.begin(n);
            logic.rule(0, 0, 0, 0);
            for (int bad : noStates(n)) {
                CHECK.refused("ways(" + bad + ")", INDEX, () -> logic.ways(bad));
            }
            CHECK.same("the first state", logic.ways(0), 1);
            CHECK.same("the last state", logic.ways((1 << n) - 1), 1);
        }
    }
}
