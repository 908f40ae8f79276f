/** Promises 13 to 15, sentence by sentence. */
final class RunEdges {
    private final Edges e;

    RunEdges(Edges e) {
        this.e = e;
    }

    void all() {
        run();
        result();
        wasNull();
    }

    private void run() {
        e.section("Promise 13");
        e.of("A RUN with FUEL, 0 .. 4000: its OUTCOME.");
        for (String fuel : "1 2 3999 4000".split(" ")) {
            e.run("program HALT", "run(" + fuel + ") = 0", "program ROWID 0 0", "run(" + fuel + ") = 3", "program GOTO 0", "run(" + fuel + ") = 1");
        }
        e.run("program RESULT 0 1, GOTO 0", "run(128) = 1", "run(129) = 2", "run(0) = 1", "run(4000) = 2");
        e.of("IllegalArgumentException for any other fuel,");
        for (String fuel : "-1 -2 4001 4002 MIN MAX".split(" ")) {
            e.run("run(" + fuel + ") = IAE");
            e.run("program RESULT 0 1", "run(1) = 0", "run(" + fuel + ") = IAE", "results = [NULL]");
            e.run("program OPEN 0 0", "run(" + fuel + ") = IAE");
        }
        e.run("run(0) = 0", "run(4000) = 0");
        e.of("or if any instruction of the program, come to or not, opens a table that there is not,");
        StringBuilder tables = new StringBuilder("run(0) = 0");
        for (int made = 0; made <= 3; made++) {
            for (int t = 0; t <= 2; t++) {
                for (String program : new String[] {"OPEN 0 %, HALT", "HALT, OPEN 2 %", "GOTO 2, OPEN 1 %", "NULL 0, OPEN 1 %, NULL 0"}) {
                    String opens = "program " + program.replace("%", "" + t);
                    e.run(tables.toString(), opens, "run(4000) = " + (t < made ? "0" : "IAE"), "run(0) = " + (t < made ? "1" : "IAE"));
                }
            }
            tables.append("; table(1)");
        }
        e.run("program RESULT 0 1", "run(9) = 0", "program RESULT 0 1, RESULT 0 1, OPEN 0 0", "run(9) = IAE", "results = [NULL]", "table(1)", "run(9) = 0",
            "results = [NULL] [NULL]");
        // Numbers that are no tables are not taken for ones.
        e.run("table(1)", "program HALT, INTEGER 2 2, ADD 2 2 2, COLUMN 2 2 2, RESULT 2 2, ROWID 2 2, NULL 2, DELETE 2", "run(9) = 0");
        goesTooFar();
    }

    private void goesTooFar() {
        e.of("or goes to a number above that behind its last instruction.");
        String[] going = {"REWIND 0 %", "NEXT 0 %", "SEEK 0 % 0", "EQ 0 % 0", "NE 0 % 0", "LT 0 % 0", "LE 0 % 0", "GT 0 % 0", "GE 0 % 0", "ISNULL 0 %", "NOTNULL 0 %", "GOTO %",
            "INSERT 0 % 0"};
        for (String op : going) {
            // Two instructions: 0 and 1 are there, 2 is the number behind the last.
            for (int j : new int[] {0, 1, 2, 3, 4, 59, 60}) {
                String at = op.replace("%", "" + j);
                e.run("program HALT, " + at, "run(4000) = " + (j <= 2 ? "0" : "IAE"), "run(0) = " + (j <= 2 ? "1" : "IAE"));
                e.run("program " + at + ", HALT", "run(0) = " + (j <= 2 ? "1" : "IAE"));
            }
            // One alone.
            e.run("program " + op.replace("%", "1"), "run(0) = 1", "program " + op.replace("%", "2"), "run(0) = IAE");
            e.run("table(1)", "insert(0, 5)", "program OPEN 0 0, REWIND 0 0, DELETE 0, RESULT 0 1, " + op.replace("%", "6"), "run(99) = IAE", "results = none", "count(0) = 1");
        }
        StringBuilder sixty = new StringBuilder("program HALT");
        for (int k = 1; k < 59; k++) {
            sixty.append(", NULL 0");
        }
        e.run(sixty + ", GOTO 60", "run(9) = 0");
        e.run(sixty.substring(0, sixty.length() - ", NULL 0".length()) + ", GOTO 60", "run(9) = IAE", "add(NULL, 0, 0, 0) = 59", "run(9) = 0");
        // Numbers that are gone to nowhere may be any.
        e.run("program HALT, INTEGER 60 15, INTEGER MAX 0, ADD 15 15 15, RESULT 12 4, COLUMN 2 3 15, ROWID 2 15, NULL 15", "run(9) = 0");
        e.run("program HALT, EQ 15 2 15, SEEK 2 2 15, INSERT 2 2 11", "run(9) = 0");
    }

    private void result() {
        e.section("Promise 14");
        String three = "program INTEGER 5 0, INTEGER -6 2, RESULT 0 1, RESULT 0 4, RESULT 2 2; run(99) = 0";
        e.of("RESULT row i of the latest run, its value k, 0 for NULL;");
        e.run(three, "result(0, 0) = 5", "result(1, 0) = 5", "result(1, 1) = 0", "result(1, 2) = -6", "result(1, 3) = 0", "result(2, 0) = -6", "result(2, 1) = 0");
        e.run("table(1)", "set(0, true, MIN)", "insert(0, MAX)", "program OPEN 0 0, REWIND 0 0, ROWID 0 0, COLUMN 0 0 1, RESULT 0 2", "run(9) = 0",
            "result(0, 0) = 9223372036854775807", "result(0, 1) = -9223372036854775808");
        e.run(three, "program INTEGER 8 0, RESULT 0 1", "run(9) = 0", "result(0, 0) = 8", "result(1, 0) = IOOBE", "result(-1, 0) = 1");
        // NULL where a row of the run before had a value.
        e.run(three, "program RESULT 0 4", "run(9) = 0", "result(0, 0) = 0", "result(0, -1) = 4");
        e.of("how many rows (0 before any run), if i is -1, whatever k is;");
        for (String k : "MIN -2 -1 0 1 4 64 MAX".split(" ")) {
            e.run("result(-1, " + k + ") = 0", three, "result(-1, " + k + ") = 3");
        }
        e.run("run(0) = 0", "result(-1, 0) = 0");
        e.run("program RESULT 0 1, GOTO 0", "run(127) = 1", "result(-1, 0) = 64", "run(126) = 1", "result(-1, 0) = 63", "run(4000) = 2", "result(-1, 0) = 64");
        e.of("how many values, if k is -1.");
        e.run(three, "result(0, -1) = 1", "result(1, -1) = 4", "result(2, -1) = 2", "result(3, -1) = IOOBE", "result(-2, -1) = IOOBE");
        e.run("result(0, -1) = IOOBE");
        resultsStay(three);
        e.of("IndexOutOfBoundsException if there is none such.");
        noSuchResult("result", three);
        e.run(three, "result(0, -2) = IOOBE", "result(1, -2) = IOOBE", "result(0, -1) = 1");
        e.run("program RESULT 0 1, GOTO 0", "run(4000) = 2", "result(63, 0) = 0", "result(64, 0) = IOOBE", "result(65, 0) = IOOBE");
    }

    private void resultsStay(String three) {
        e.of("(They stay until the next run.)");
        String due = "results = [5] [5 NULL -6 NULL] [-6 NULL]";
        e.run(three, due, "wipe()", due, "table(1)", "insert(0, 1)", due, "ask(0, NONE)", "output(0, 0)", "compile() = 6", due, "delete(0, 1)", due, "add(NULL, 0, 0, 0)", due);
        // A run that throws is none; one without fuel is one.
        e.run(three, "run(-1) = IAE", due, "run(4001) = IAE", due, "add(OPEN, 0, 0, 0)", "run(9) = IAE", due, "wipe()", "add(GOTO, 9, 0, 0)", "run(9) = IAE", due);
        e.run(three, "run(0) = 1", "results = none");
        e.run(three, "wipe()", "run(0) = 0", "results = none", "result(0, 0) = IOOBE");
        e.run(three, "run(3) = 1", "results = [5]");
    }

    private void wasNull() {
        e.section("Promise 15");
        String three = "program INTEGER 0 0, INTEGER -6 2, RESULT 0 1, RESULT 0 4, RESULT 2 2; run(99) = 0";
        e.of("Whether it is NULL.");
        e.run(three, "wasNull(0, 0) = false", "wasNull(1, 0) = false", "wasNull(1, 1) = true", "wasNull(1, 2) = false", "wasNull(1, 3) = true", "wasNull(2, 0) = false",
            "wasNull(2, 1) = true");
        e.run(three, "program RESULT 0 4", "run(9) = 0", "wasNull(0, 0) = true", "wasNull(0, 1) = true", "wasNull(0, 2) = true", "wasNull(0, 3) = true");
        e.run(three, "wipe()", "wasNull(1, 1) = true", "run(-1) = IAE", "wasNull(1, 1) = true", "wasNull(1, 0) = false", "run(0) = 0", "wasNull(1, 1) = IOOBE");
        e.of("IndexOutOfBoundsException if there is no such row or value.");
        noSuchResult("wasNull", three);
        for (String k : "MIN -2 -1 0 1 MAX".split(" ")) {
            e.run(three, "wasNull(-1, " + k + ") = IOOBE");
        }
        for (int i = -2; i <= 3; i++) {
            e.run(three, "wasNull(" + i + ", -1) = IOOBE", "wasNull(" + i + ", -2) = IOOBE");
        }
        e.run("program RESULT 0 1, GOTO 0", "run(4000) = 2", "wasNull(63, 0) = true", "wasNull(64, 0) = IOOBE", "wasNull(63, 1) = IOOBE");
    }

    /** Rows of 1, 4 and 2 values. */
    private void noSuchResult(String name, String three) {
        int[] widths = {1, 4, 2};
        e.run(name + "(0, 0) = IOOBE", "run(0) = 0", name + "(0, 0) = IOOBE");
        for (String k : "0 1 3 4".split(" ")) {
            for (String i : "MIN -2 3 4 64 MAX".split(" ")) {
                e.run(three, name + "(" + i + ", " + k + ") = IOOBE");
            }
        }
        for (int i = 0; i < 3; i++) {
            for (String k : new String[] {"MIN", "-2", "" + widths[i], "4", "5", "MAX"}) {
                e.run(three, name + "(" + i + ", " + k + ") = IOOBE");
            }
        }
        // A wider row of a run before leaves nothing behind.
        e.run("program RESULT 0 4", "run(9) = 0", "program RESULT 0 1", "run(9) = 0", name + "(0, 1) = IOOBE", name + "(0, 3) = IOOBE");
    }
}
