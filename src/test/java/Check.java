/** Counts the answers that aren't as due, prints each, and ends a test with exit code 1 if there is one. */
final class Check {
    private static final String NOTHING = "nothing thrown";

    private int wrong;
    private String sentence = "";

    /** A call that is expected to throw. */
    interface Call {
        void run();
    }

    /** Runs the test of one sentence of the document, which is told with each answer that is wrong. */
    void run(String place, String words, Call test) {
        sentence = place + ", \"" + words + "\": ";
        String got = outcome(test);
        if (!got.equals(NOTHING)) {
            tell("a call that is to answer threw " + got);
        }
        sentence = "";
    }

    void same(String what, long got, long due) {
        if (got != due) {
            tell(what + " answered " + got + ", due is " + due);
        }
    }

    void same(String what, boolean got, boolean due) {
        if (got != due) {
            tell(what + " answered " + got + ", due is " + due);
        }
    }

    void same(String what, String got, String due) {
        if (!got.equals(due)) {
            tell(what + " answered " + got + ", due is " + due);
        }
    }

    /** Asks for the very class: an ArrayIndexOutOfBoundsException of the machine's own won't do. */
    void refused(String what, Class<? extends RuntimeException> due, Call call) {
        same(what, outcome(call), due.getName());
    }

    private static String outcome(Call call) {
        try {
            call.run();
        } catch (RuntimeException thrown) {
            return thrown.getClass().getName();
        }
        return NOTHING;
    }

    /** The states in which a formula holds, as holds() tells them. */
    static String states(StateLogic logic, int formula, int states) {
        StringBuilder text = new StringBuilder();
        for (int state = 0; state < states; state++) {
            if (logic.holds(formula, state)) {
                text.append(text.length() == 0 ? "" : " ").append(state);
            }
        }
        return text.toString();
    }

    /** The witness of an UNTIL, as length() and witness() tell it. */
    static String row(StateLogic logic, int formula, int state) {
        StringBuilder text = new StringBuilder();
        int length = logic.length(formula, state);
        for (int k = 0; k < length; k++) {
            text.append(k == 0 ? "" : " ").append(logic.witness(formula, state, k));
        }
        return text.toString();
    }

    void end() {
        System.out.println(wrong == 0 ? "all answers are as due" : wrong + " answers are not as due");
        if (wrong != 0) {
            System.exit(1);
        }
    }

    private void tell(String line) {
        wrong++;
        if (wrong <= 50) {
            System.out.println(sentence + line);
        }
    }
}
