import java.io.IOException;
import java.nio.file.Files;
import java.nio.file.Path;

/** The example of README.md: each of its lines stands there as here, and answers as it says there. */
public final class ReadmeTest {
    private static final Check CHECK = new Check();
    private static final String NONE = "StateLogic.NONE";

    public static void main(String[] args) throws IOException {
        String readme = Files.readString(Path.of("README.md"));
        StateLogic logic = new StateLogic();
        told(readme, "StateLogic logic = new StateLogic();", "one bit, no rules, no formulas");
        logic.begin(3);
        told(readme, "logic.begin(3);", "three bits: states 0 .. 7");
        logic.rule(1, 0, 7, 1);
        told(readme, "logic.rule(1, 0, 7, 1);", "even states: bit 0 becomes 1");
        logic.rule(1, 1, 6, 2);
        told(readme, "logic.rule(1, 1, 6, 2);", "odd states: bit 0 becomes 0, bit 1 is flipped");
        int any = logic.formula(0, 0, 0);
        told(readme, "int any = logic.formula(0, 0, 0);", "ATOM: any state");
        int two = logic.formula(0, 7, 2);
        told(readme, "int two = logic.formula(0, 7, 2);", "ATOM: state 2 alone");
        int way = logic.formula(5, any, two);
        told(readme, "int way = logic.formula(5, any, two);", "UNTIL: there is a row to state 2");
        told(readme, "logic.holds(way, 0);", String.valueOf(logic.holds(way, 0)));
        told(readme, "logic.count(way);", String.valueOf(logic.count(way)));
        told(readme, "logic.first(way, 4);", logic.first(way, 4) == StateLogic.NONE ? NONE : "a state");
        told(readme, "logic.length(way, 0);", logic.length(way, 0) + ": the witness is the row "
                + Check.row(logic, way, 0).replace(" ", ", "));
        told(readme, "logic.witness(way, 0, 1);", String.valueOf(logic.witness(way, 0, 1)));
        told(readme, "logic.ways(0);", String.valueOf(logic.ways(0)));
        CHECK.end();
    }

    /** A line of the README has the call, and what is said behind it begins with the answer. */
    private static void told(String readme, String call, String answer) {
        String found = "no such line";
        for (String line : readme.split("\n")) {
            int comment = line.indexOf("//");
            if (line.startsWith(call) && comment >= 0) {
                found = line.substring(comment + 2).trim();
            }
        }
        CHECK.same(call + " is told as: " + found + "; that it begins with " + answer,
                found.equals(answer) || found.startsWith(answer + ":"), true);
    }
}
