import java.util.ArrayList;
import java.util.List;

/**
 * "What throws, or answers false, changes nothing.": two objects are brought to the same state, one of them
 * is told a call that it refuses, and then both must answer alike to all that can be asked of them.
 */
final class UnchangedEdges {
    private static final String QUESTION = "ask(0, 1); output(0, 0); output(1, -1); condition(0, 0, 0, 5); condition(1, -1, 4, 1); join(0, -1)";
    private static final String FULL_QUESTION = "ask(0, 1); output(0, 0); output(1, 0); output(1, 1); output(0, -1); condition(0, 0, 7, 5); condition(1, -1, 4, 1); "
        + "condition(1, 1, 6, 0); condition(0, -1, 5, 0); join(-1, -1)";
    private static final String ROWS = "table(1); table(2); set(0, true, 5); insert(0, 1); set(1, true, 6); insert(1, 2); insert(1, 5); set(3, true, 7); set(0, false, 0)";
    private static final String RESULTS = "program INTEGER 4 0, RESULT 0 2, RESULT 0 1; run(9)";

    private static final String[] STATES = {
        "count(0)",
        "table(3)",
        ROWS,
        ROWS + "; table(4); insert(2, 1)",
        ROWS + "; " + RESULTS,
        ROWS + "; " + RESULTS + "; " + QUESTION,
        ROWS + "; " + FULL_QUESTION + "; compile(); run(999)",
        ROWS + "; " + RESULTS + "; ask(0, NONE); condition(0, -1, 0, 3)",
        ROWS + "; " + RESULTS + "; add(OPEN, 0, 2, 0)",
        ROWS + "; " + RESULTS + "; add(GOTO, 9, 0, 0)",
        ROWS + "; ask(1, NONE); output(0, 1); " + RESULTS + "; fill(0, 100, 186)",
        "table(1); " + sixty() + "; run(99)"
    };

    private final Edges e;
    private int refused = 0;

    UnchangedEdges(Edges e) {
        this.e = e;
    }

    void all() {
        e.section("Terms");
        e.of("What throws, or answers false, changes nothing.");
        List<String> calls = calls();
        for (String state : STATES) {
            for (String call : calls) {
                look(state, call);
            }
        }
        e.same("true", "" + (refused > 800), "there are many refused calls: " + refused);
    }

    private static String sixty() {
        StringBuilder program = new StringBuilder("program INTEGER 3 0");
        for (int k = 1; k < 59; k++) {
            program.append(", INTEGER ").append(k).append(" 1");
        }
        return program.append(", RESULT 0 3").toString();
    }

    /** Calls that are refused in some state, if not in all. */
    private static List<String> calls() {
        List<String> calls = new ArrayList<>();
        for (String t : "-1 0 1 2 3 MIN MAX".split(" ")) {
            for (String key : "0 1 2 5 9 MIN MAX".split(" ")) {
                calls.add("insert(" + t + ", " + key + ")");
                calls.add("delete(" + t + ", " + key + ")");
                calls.add("next(" + t + ", " + key + ", true)");
                calls.add("value(" + t + ", " + key + ", 0)");
                calls.add("value(" + t + ", " + key + ", 2)");
                calls.add("isNull(" + t + ", " + key + ", 1)");
                calls.add("isNull(" + t + ", " + key + ", -1)");
            }
            for (String u : "-2 -1 0 1 2 3".split(" ")) {
                calls.add("ask(" + t + ", " + u + ")");
            }
            for (String k : "-2 -1 0 1 2 4".split(" ")) {
                calls.add("output(" + t + ", " + k + ")");
                calls.add("condition(" + t + ", " + k + ", 0, 7)");
                calls.add("condition(" + t + ", " + k + ", 6, 7)");
                calls.add("join(" + t + ", " + k + ")");
            }
        }
        calls.addAll(List.of("table(0)", "table(1)", "table(4)", "table(5)", "table(-1)", "set(-1, true, 99)", "set(4, true, 99)", "set(4, false, 99)", "set(MAX, true, 99)",
            "condition(0, 0, 8, 7)", "condition(0, -1, -1, 7)", "condition(1, 0, 8, 7)", "compile()", "run(-1)", "run(4001)", "run(9)", "run(0)", "code(0, 4)", "code(60, 0)",
            "code(-1, 0)", "result(0, 4)", "result(64, 0)", "result(-2, 0)", "wasNull(-1, 0)", "wasNull(0, -1)", "wasNull(9, 9)"));
        calls.addAll(List.of("add(-1, 0, 0, 0)", "add(22, 0, 0, 0)", "add(HALT, 0, 0, 0)", "add(OPEN, 3, 0, 0)", "add(OPEN, 0, 3, 0)", "add(REWIND, 0, 61, 0)", "add(COLUMN, 0, 4, 0)",
            "add(ROWID, 0, 16, 0)", "add(INTEGER, 5, 16, 0)", "add(SEEK, 0, 0, 16)", "add(RESULT, 13, 4, 0)", "add(RESULT, 0, 0, 0)", "add(RESULT, 0, 5, 0)", "add(GOTO, 61, 0, 0)",
            "add(INSERT, 0, 0, 12)", "add(DELETE, 3, 0, 0)"));
        return calls;
    }

    private void look(String state, String call) {
        Subject told = at(state);
        String answer = told.answer(call);
        if (!Edges.isRefusal(answer)) {
            return;
        }
        refused++;
        e.same(everything(at(state)), everything(told), state + "; " + call + " = " + answer);
        e.same("true", "" + (told.calls() <= 512), state + "; " + call + " with " + told.calls() + " calls");
    }

    private static Subject at(String state) {
        Subject x = new Subject();
        for (String call : state.split("; ")) {
            x.answer(call);
        }
        return x;
    }

    /** First what can be seen as it is; then the question and the row that is to come, which show only when they are used. */
    private static String everything(Subject x) {
        StringBuilder text = new StringBuilder();
        for (String look : new String[] {"results", "count(0)", "count(1)", "count(2)", "next(0, 99, true)", "delete(0, 100)", "delete(0, 101)", "rows(1)", "rows(2)", "value(0, 1, 0)",
            "code(0, 0)", "code(0, 1)", "code(1, 0)", "code(1, 2)", "code(2, 0)", "code(3, 0)", "code(3, 1)", "code(4, 0)", "code(58, 0)", "code(59, 0)", "run(99)", "results",
            "compile()", "listing", "run(999)", "results", "output(0, -1)", "output(0, -1)", "output(0, -1)", "output(0, -1)", "condition(0, -1, 6, 0)", "condition(0, -1, 6, 0)",
            "condition(0, -1, 6, 0)", "condition(0, -1, 6, 0)", "compile()", "table(4)", "table(4)", "table(4)", "insert(0, 50)", "insert(1, 50)", "insert(2, 50)", "value(0, 50, 0)",
            "rows(2)", "isNull(1, 50, 1)", "isNull(1, 50, 0)", "value(1, 50, 1)", "add(HALT, 0, 0, 0)", "wipe()", "add(HALT, 0, 0, 0)"}) {
            text.append(look).append(" = ").append(x.answer(look)).append("; ");
        }
        return text.toString();
    }
}
