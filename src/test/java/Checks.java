/** Counts and prints the answers that are not the ones that are due. */
final class Checks {
    /** A call that may throw. */
    interface Call {
        long answer();
    }

    private int made = 0;
    private int wrong = 0;
    private String sentence = "";

    /** The checks that follow test these words of the document. */
    void sentence(String words) {
        sentence = "[" + words + "] ";
    }

    void due(String what, long got, long want) {
        made++;
        if (got != want) {
            wrong++;
            System.out.println(sentence + what + " answered " + got + ", due is " + want);
        }
    }

    void due(String what, boolean got, boolean want) {
        due(what, got ? 1 : 0, want ? 1 : 0);
    }

    /** The row's op, d, a, b are what source answers of instruction i. */
    void dueSource(String what, BlockCode code, int i, int... row) {
        for (int field = 0; field < 4; field++) {
            due(what + ": source(" + i + ", " + field + ")", code.source(i, field), row[field]);
        }
    }

    /** The row's op, d, a, b are what result answers of instruction i. */
    void dueResult(String what, BlockCode code, int i, int... row) {
        for (int field = 0; field < 4; field++) {
            due(what + ": result(" + i + ", " + field + ")", code.result(i, field), row[field]);
        }
    }

    /** The call throws IllegalStateException and nothing else. */
    void dueState(String what, Call call) {
        made++;
        String got;
        try {
            got = "answered " + call.answer();
        } catch (RuntimeException e) {
            if (e.getClass() == IllegalStateException.class) {
                return;
            }
            got = "threw " + e.getClass().getName();
        }
        wrong++;
        System.out.println(sentence + what + " " + got + ", due is IllegalStateException");
    }

    int wrong() {
        return wrong;
    }

    /** Ends the program with exit code 1 if an answer was wrong. */
    void end(String name) {
        System.out.println(name + ": " + made + " checks, " + wrong + " wrong");
        if (wrong != 0) {
            System.exit(1);
        }
    }
}
