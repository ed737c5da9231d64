import java.util.LinkedHashMap;
import java.util.Map;
import java.util.NoSuchElementException;
import java.util.function.Consumer;
import java.util.function.Supplier;

/** What the document says of all calls: those that throw, and how many an object takes. */
public final class RefusedTest {
    private static final Check CHECK = new Check();
    private static final Class<IllegalArgumentException> ARGUMENT = IllegalArgumentException.class;
    private static final Class<UnsupportedOperationException> FULL = UnsupportedOperationException.class;
    private static final Class<IndexOutOfBoundsException> INDEX = IndexOutOfBoundsException.class;
    private static final Class<NoSuchElementException> ELEMENT = NoSuchElementException.class;

    public static void main(String[] args) {
        CHECK.run("Terms", "A call that throws changes nothing", RefusedTest::changesNothing);
        CHECK.run("Terms", "A call that throws changes nothing (there are 40 rules and 60 formulas)",
                RefusedTest::changesNothingWhenFull);
        CHECK.run("Terms", "of several exceptions the one that it names first is thrown (rule)",
                RefusedTest::argumentBeforeFullRule);
        CHECK.run("Terms", "of several exceptions the one that it names first is thrown (formula)",
                RefusedTest::argumentBeforeFullFormula);
        CHECK.run("Terms", "of several exceptions the one that it names first is thrown (length)",
                RefusedTest::indexBeforeArgumentOfLength);
        CHECK.run("Terms", "of several exceptions the one that it names first is thrown (witness, index)",
                RefusedTest::indexBeforeTheOthersOfWitness);
        CHECK.run("Terms", "of several exceptions the one that it names first is thrown (witness)",
                RefusedTest::argumentBeforeElementOfWitness);
        CHECK.run("What it is", "An object is used for at most 512 calls after it has been made",
                RefusedTest::fiveHundredAndTwelveCalls);
        CHECK.end();
    }

    /** Two bits, two rules and a formula of each kind; formula 5 is the UNTIL. */
    private static StateLogic small() {
        StateLogic logic = new StateLogic();
        logic.begin(2);
        logic.rule(1, 0, 3, 1);
        logic.rule(3, 3, 3, 3);
        logic.formula(0, 3, 1);
        logic.formula(1, 0, 0);
        for (int kind = 2; kind <= 7; kind++) {
            logic.formula(kind, 1, 0);
        }
        return logic;
    }

    /** The limits: 40 rules, 60 formulas; formula 59 is an UNTIL. */
    private static StateLogic full() {
        StateLogic logic = new StateLogic();
        logic.begin(2);
        for (int number = 0; number < 40; number++) {
            logic.rule(3, number % 3, 0, number % 3 + 1);
        }
        logic.formula(0, 0, 0);
        logic.formula(0, 3, 3);
        for (int number = 2; number < 60; number++) {
            logic.formula(5, number - 2, 1);
        }
        return logic;
    }

    private static Map<String, Consumer<StateLogic>> refusedCalls() {
        Map<String, Consumer<StateLogic>> calls = new LinkedHashMap<>();
        calls.put("begin(0)", logic -> logic.begin(0));
        calls.put("begin(9)", logic -> logic.begin(9));
        calls.put("rule(4, 0, 3, 1)", logic -> logic.rule(4, 0, 3, 1));
        calls.put("rule(3, 4, 3, 1)", logic -> logic.rule(3, 4, 3, 1));
        calls.put("rule(0, 0, 4, 1)", logic -> logic.rule(0, 0, 4, 1));
        calls.put("rule(0, 0, 3, 4)", logic -> logic.rule(0, 0, 3, 4));
        calls.put("rule(0, 0, 3, -1)", logic -> logic.rule(0, 0, 3, -1));
        calls.put("rule(1, 2, 3, 1)", logic -> logic.rule(1, 2, 3, 1));
        calls.put("formula(8, 0, 0)", logic -> logic.formula(8, 0, 0));
        calls.put("formula(-1, 0, 0)", logic -> logic.formula(-1, 0, 0));
        calls.put("formula(0, 4, 0)", logic -> logic.formula(0, 4, 0));
        calls.put("formula(0, 3, 4)", logic -> logic.formula(0, 3, 4));
        calls.put("formula(0, 1, 2)", logic -> logic.formula(0, 1, 2));
        for (int kind = 1; kind <= 7; kind++) {
            int of = kind;
            calls.put("formula(" + of + ", 60, 0)", logic -> logic.formula(of, 60, 0));
        }
        calls.put("formula(7, 0, 60)", logic -> logic.formula(7, 0, 60));
        calls.put("holds(60, 0)", logic -> logic.holds(60, 0));
        calls.put("holds(5, 4)", logic -> logic.holds(5, 4));
        calls.put("count(60)", logic -> logic.count(60));
        calls.put("first(60, 0)", logic -> logic.first(60, 0));
        calls.put("first(5, -1)", logic -> logic.first(5, -1));
        calls.put("length(60, 0)", logic -> logic.length(60, 0));
        calls.put("length(5, 4)", logic -> logic.length(5, 4));
        calls.put("length(0, 0)", logic -> logic.length(0, 0));
        calls.put("witness(60, 0, 0)", logic -> logic.witness(60, 0, 0));
        calls.put("witness(5, -1, 0)", logic -> logic.witness(5, -1, 0));
        calls.put("witness(0, 0, 0)", logic -> logic.witness(0, 0, 0));
        calls.put("witness(5, 0, 4)", logic -> logic.witness(5, 0, 4));
        calls.put("witness(5, 0, -1)", logic -> logic.witness(5, 0, -1));
        calls.put("ways(4)", logic -> logic.ways(4));
        calls.put("ways(-1)", logic -> logic.ways(-1));
        return calls;
    }

    private static boolean throwsOne(StateLogic logic, Consumer<StateLogic> call) {
        try {
            call.accept(logic);
        } catch (RuntimeException refusal) {
            return true;
        }
        return false;
    }

    private static void changesNothing() {
        String due = answers(small()) + growth(small());
        for (Map.Entry<String, Consumer<StateLogic>> call : refusedCalls().entrySet()) {
            compareAfter(call.getKey(), call.getValue(), RefusedTest::small, due);
        }
    }

    /** What an object answers is due after a refused call, be it asked before it or not. */
    private static void compareAfter(String name, Consumer<StateLogic> call, Supplier<StateLogic> make,
            String due) {
        StateLogic logic = make.get();
        CHECK.same(name + " throws", throwsOne(logic, call), true);
        CHECK.same("after " + name, answers(logic) + growth(logic), due);
        StateLogic asked = make.get();
        answers(asked);
        throwsOne(asked, call);
        CHECK.same("asked before and after " + name, answers(asked) + growth(asked), due);
    }

    /** All that can be asked of small(). */
    private static String answers(StateLogic logic) {
        StringBuilder text = new StringBuilder();
        for (int state = 0; state < 4; state++) {
            text.append(logic.ways(state)).append(' ').append(Check.row(logic, 5, state)).append(';');
        }
        for (int formula = 0; formula < 8; formula++) {
            text.append(Check.states(logic, formula, 4)).append(';');
        }
        return text.toString();
    }

    /** The numbers that come next, and what the answers then are. */
    private static String growth(StateLogic logic) {
        return logic.rule(3, 1, 0, 2) + " " + logic.formula(4, 7, 0) + " " + Check.states(logic, 8, 4) + "; "
                + answers(logic);
    }

    private static void changesNothingWhenFull() {
        String due = answersWhenFull(full());
        StateLogic logic = full();
        CHECK.refused("a rule", FULL, () -> logic.rule(3, 3, 0, 0));
        CHECK.refused("a rule for all", FULL, () -> logic.rule(0, 0, 0, 3));
        for (int kind = 0; kind <= 7; kind++) {
            int of = kind;
            CHECK.refused("a formula of kind " + kind, FULL, () -> logic.formula(of, 1, 1));
        }
        CHECK.same("after them", answersWhenFull(logic), due);
        CHECK.refused("formula 60", INDEX, () -> logic.count(60));
    }

    private static String answersWhenFull(StateLogic logic) {
        StringBuilder text = new StringBuilder();
        for (int formula = 0; formula < 60; formula++) {
            text.append(logic.count(formula)).append(' ');
        }
        for (int state = 0; state < 4; state++) {
            text.append(logic.ways(state)).append(' ').append(Check.row(logic, 59, state)).append(';');
        }
        return text.toString();
    }

    private static void argumentBeforeFullRule() {
        StateLogic logic = full();
        CHECK.refused("no such mask", ARGUMENT, () -> logic.rule(4, 0, 0, 0));
        CHECK.refused("no such value", ARGUMENT, () -> logic.rule(3, -1, 0, 0));
        CHECK.refused("no such bits kept", ARGUMENT, () -> logic.rule(0, 0, 4, 0));
        CHECK.refused("no such bits flipped", ARGUMENT, () -> logic.rule(0, 0, 0, 4));
        CHECK.refused("a value beyond the mask", ARGUMENT, () -> logic.rule(1, 2, 0, 0));
        CHECK.refused("nothing wrong but the number", FULL, () -> logic.rule(0, 0, 0, 0));
    }

    private static void argumentBeforeFullFormula() {
        StateLogic logic = full();
        CHECK.refused("no such kind", ARGUMENT, () -> logic.formula(8, 0, 0));
        CHECK.refused("no such kind", ARGUMENT, () -> logic.formula(-1, 0, 0));
        CHECK.refused("no such x", ARGUMENT, () -> logic.formula(1, 60, 0));
        CHECK.refused("no such y", ARGUMENT, () -> logic.formula(7, 0, 60));
        CHECK.refused("no such mask", ARGUMENT, () -> logic.formula(0, 4, 0));
        CHECK.refused("no such value", ARGUMENT, () -> logic.formula(0, 3, 4));
        CHECK.refused("a value beyond the mask", ARGUMENT, () -> logic.formula(0, 1, 2));
        CHECK.refused("nothing wrong but the number", FULL, () -> logic.formula(0, 0, 0));
    }

    private static void indexBeforeArgumentOfLength() {
        StateLogic logic = small();
        CHECK.refused("no UNTIL, no such state", INDEX, () -> logic.length(0, 4));
        CHECK.refused("no UNTIL, no such state", INDEX, () -> logic.length(7, -1));
        CHECK.refused("no UNTIL", ARGUMENT, () -> logic.length(7, 3));
    }

    private static void indexBeforeTheOthersOfWitness() {
        StateLogic logic = small();
        CHECK.refused("no formula, no state, no k", INDEX, () -> logic.witness(8, 4, -1));
        CHECK.refused("no formula, no k", INDEX, () -> logic.witness(-1, 0, -1));
        CHECK.refused("no UNTIL, no state", INDEX, () -> logic.witness(0, 4, 0));
        CHECK.refused("no UNTIL, no state, no k", INDEX, () -> logic.witness(7, -1, 9));
        CHECK.refused("no state, no k", INDEX, () -> logic.witness(5, 4, 9));
    }

    private static void argumentBeforeElementOfWitness() {
        StateLogic logic = small();
        CHECK.refused("no UNTIL, no k", ARGUMENT, () -> logic.witness(0, 0, -1));
        CHECK.refused("no UNTIL, no k", ARGUMENT, () -> logic.witness(6, 0, 256));
        CHECK.refused("no k", ELEMENT, () -> logic.witness(5, 0, 256));
    }

    /** The dearest of calls, one behind the other: rules, then all the formulas asked for anew. */
    private static void fiveHundredAndTwelveCalls() {
        StateLogic logic = new StateLogic();
        logic.begin(8);
        logic.formula(0, 0, 0);
        logic.formula(0, 255, 255);
        for (int number = 2; number < 60; number++) {
            logic.formula(number % 2 == 0 ? 5 : 7, 0, number - 1);
        }
        int calls = 61;
        for (int number = 0; number < 40; number++) {
            int mask = (2 << number % 8) - 1;
            logic.rule(mask, mask >> 1, 255 & ~mask, 1 << number % 8);
            CHECK.same("count " + number, logic.count(59), 0);
            calls += 2;
        }
        CHECK.same("no ring yet, but rows", logic.count(2), 256);
        CHECK.same("the longest row", logic.length(2, 0), 256);
        calls += 2;
        for (int k = 0; calls < 511; k = (k + 7) % 256) {
            CHECK.same("state " + k, logic.witness(2, 0, k), k);
            calls++;
        }
        CHECK.same("call 512", logic.witness(2, 0, 255), 255);
    }
}
