/** What the class is, and what the terms say of values, tables, the machine, a run and its outcomes, sentence by sentence. */
final class TermsEdges {
    private static final String LEAST = "-9223372036854775808";
    private static final String MOST = "9223372036854775807";

    private final Edges e;

    TermsEdges(Edges e) {
        this.e = e;
    }

    void all() {
        e.section("What it is");
        whole();
        calls();
        e.section("Terms");
        values();
        rows();
        registers();
        cursors();
        programs();
        begin();
        outcomes();
        rowsStay();
        constants();
    }

    private void whole() {
        e.of("Tables of rows by key, a register machine that goes over them with cursors, and a compiler that makes its programs out of questions.");
        e.run("table(1) = 0", "table(2) = 1", "set(0, true, 10)", "insert(0, 2)", "insert(0, 1)", "set(0, true, 2)", "set(1, true, 30)", "insert(1, 8)", "set(0, true, 3)",
            "insert(1, 9)", "ask(0, 1)", "output(0, 0)", "output(1, 1)", "join(-1, 0)", "condition(1, -1, 3, 8)", "compile() = 18",
            "listing = OPEN 0 0, OPEN 1 1, REWIND 0 17, REWIND 1 16, ROWID 1 0, INTEGER 8 1, LE 0 8 1, GOTO 15, ROWID 0 0, COLUMN 1 0 1, EQ 0 12 1, GOTO 15, "
                + "COLUMN 0 0 2, COLUMN 1 1 3, RESULT 2 2, NEXT 1 4, NEXT 0 3, HALT",
            "run(999) = 0", "results = [10 30]");
    }

    private void calls() {
        e.of("An object is used for at most 512 calls after it has been made;");
        of512("", "count(0) = -1", "set(0, true, 1) = true");
        of512("", "table(0) = IAE", "table(4) = 0");
        of512("", "code(0, 0) = IOOBE", "wipe() = done");
        of512("", "add(22, 0, 0, 0) = IAE; insert(0, 1) = IAE", "add(HALT, 0, 0, 0) = 0; table(1) = 0; insert(0, 1) = true");
        of512("table(1)", "insert(0, 5) = true; delete(0, 5) = true", "insert(0, 6) = true; count(0) = 1");
        of512("table(4)", "add(NULL, 0, 0, 0) = 0; wipe(); set(3, true, 8) = true; set(3, false, 8) = true", "add(HALT, 0, 0, 0) = 0; insert(0, 1) = true; isNull(0, 1, 3) = true");
        of512("add(GOTO, 0, 0, 0)", "run(4000) = 1", "wipe(); run(0) = 0");
        of512("add(RESULT, 12, 4, 0); add(GOTO, 0, 0, 0)", "run(4000) = 2", "result(-1, 0) = 64; wasNull(63, 3) = true");
        of512("table(4); ask(0, 0); output(0, 0); output(1, 3); join(0, -1)", "compile() = 14", "code(13, 0) = 0; code(14, 0) = IOOBE");
        of512("table(4)", "ask(0, NONE) = true; output(0, 0) = true; condition(0, -1, 4, 1) = true; compile() = 11; run(9) = 0", "compile() = 11");
        // As many rows come and go in each run as it has fuel for.
        of512("table(4); add(OPEN, 0, 0, 0); add(INTEGER, 7, 0, 0); add(INSERT, 0, 3, 0); add(REWIND, 0, 4, 0); add(DELETE, 0, 0, 0); add(GOTO, 2, 0, 0)",
            "run(4000) = 1; count(0) = 1; delete(0, 7) = true", "run(4000) = 1; value(0, 7, 0) = 0");
        e.of("what later calls answer is free.");
        // Nothing is asked of them: Edges looks at it that no run of any sentence goes so far.
        of512("", "wipe() = done", "wipe() = done");
    }

    /** What is told in the middle is told again and again, until with the last calls there are 512. */
    private void of512(String first, String again, String last) {
        StringBuilder run = new StringBuilder(first.isEmpty() ? "count(3) = -1" : first);
        int calls = rows(run.toString());
        for (; calls + rows(again) + rows(last) <= 512; calls += rows(again)) {
            run.append("; ").append(again);
        }
        for (; calls + rows(last) < 512; calls++) {
            run.append("; count(-1) = -1");
        }
        run.append("; ").append(last);
        e.same("512", "" + rows(run.toString()), "calls that end with: " + last);
        e.run(run.toString());
    }

    private static int rows(String run) {
        return run.split("; ").length;
    }

    private void values() {
        e.of("A VALUE is a long, or NULL.");
        e.run("table(4)", "set(0, true, MIN)", "set(1, true, MAX)", "set(2, true, 0)", "insert(0, 1)", "rows(0) = 1:[" + LEAST + " " + MOST + " 0 NULL]",
            "program OPEN 0 0, REWIND 0 0, COLUMN 0 0 0, COLUMN 0 1 1, COLUMN 0 2 2, COLUMN 0 3 3, RESULT 0 4", "run(9) = 0",
            "results = [" + LEAST + " " + MOST + " 0 NULL]");
        e.of("TABLES 0 .. 2 have 1 .. 4 COLUMNS 0, 1, ..;");
        e.run("table(0) = IAE", "table(1) = 0", "table(5) = IAE", "table(4) = 1", "table(3) = 2", "table(2) = ISE", "insert(0, 1)", "insert(1, 1)", "insert(2, 1)",
            "rows(0) = 1:[NULL]", "rows(1) = 1:[NULL NULL NULL NULL]", "rows(2) = 1:[NULL NULL NULL]", "insert(3, 1) = IAE", "insert(-1, 1) = IAE");
        e.of("a ROW has a KEY, a long, and a value in each column;");
        e.run("table(2)", "insert(0, MIN)", "set(0, true, 1)", "insert(0, MAX)", "set(1, true, 2)", "insert(0, 4294967296)",
            "rows(0) = " + LEAST + ":[NULL NULL] 4294967296:[1 2] " + MOST + ":[1 NULL]");
    }

    private void rows() {
        e.of("in a table no two rows have one key;");
        e.run("table(1)", "insert(0, 5)", "insert(0, 5) = false", "program OPEN 0 0, INTEGER 5 0, INSERT 0 3 0", "run(9) = 0", "keys(0) = 5");
        e.run("table(1)", "table(1)", "insert(0, 5)", "insert(1, 5) = true", "keys(0) = 5", "keys(1) = 5");
        e.run("table(1)", "fill(0, 1, 3)", "fill(0, 4, 6)", "insert(0, 1) = false", "insert(0, 3) = false", "insert(0, 4) = false", "insert(0, 6) = false",
            "keys(0) = 1 2 3 4 5 6");
        e.of("rows stand by rising keys.");
        e.run("table(1)", "insert(0, 0)", "insert(0, MAX)", "insert(0, -1)", "insert(0, MIN)", "insert(0, 4294967296)", "insert(0, 1)", "insert(0, -4294967296)",
            "keys(0) = " + LEAST + " -4294967296 -1 0 1 4294967296 " + MOST,
            "program OPEN 0 0, REWIND 0 5, ROWID 0 0, RESULT 0 1, NEXT 0 2", "run(99) = 0",
            "results = [" + LEAST + "] [-4294967296] [-1] [0] [1] [4294967296] [" + MOST + "]");
        e.run("table(1)", "insert(0, 3)", "insert(0, 2)", "insert(0, 1)", "keys(0) = 1 2 3", "delete(0, 2)", "keys(0) = 1 3", "insert(0, 2)", "keys(0) = 1 2 3");
        e.of("All tables together have at most 90 rows.");
        e.run("table(1)", "fill(0, 1, 89)", "insert(0, 90) = true", "insert(0, 91) = ISE", "count(0) = 90");
        e.run("table(4)", "table(4)", "table(4)", "fill(0, 1, 1)", "fill(1, 1, 1)", "fill(2, 1, 87)", "insert(0, 2) = true", "insert(0, 3) = ISE", "insert(1, 2) = ISE",
            "insert(2, 88) = ISE", "count(0) = 2", "count(1) = 1", "count(2) = 87");
        e.run("table(1)", "fill(0, 1, 89)", "program OPEN 0 0, INTEGER 100 0, INSERT 0 5 0, INTEGER 101 0, INSERT 0 6 0, RESULT 0 1, RESULT 0 1", "run(99) = 0",
            "results = [101]", "count(0) = 90", "next(0, 90, false) = 100", "next(0, 100, true) = NSEE");
    }

    private void registers() {
        e.of("The MACHINE has REGISTERS 0 .. 15, values,");
        StringBuilder all = new StringBuilder("program INTEGER 100 0");
        for (int r = 1; r <= 15; r++) {
            all.append(", INTEGER ").append(100 + r).append(" ").append(r);
        }
        e.run(all + ", RESULT 0 4, RESULT 4 4, RESULT 8 4, RESULT 12 4", "run(99) = 0",
            "results = [100 101 102 103] [104 105 106 107] [108 109 110 111] [112 113 114 115]");
        e.run("add(NULL, 15, 0, 0) = 0", "add(NULL, 16, 0, 0) = IAE", "add(NULL, -1, 0, 0) = IAE");
        e.run("table(1)", "insert(0, MIN)", "program OPEN 0 0, REWIND 0 0, ROWID 0 15, RESULT 15 1, RESULT 14 1", "run(9) = 0", "results = [" + LEAST + "] [NULL]");
    }

    private void cursors() {
        e.of("and CURSORS 0 .. 2.");
        e.run("table(1)", "add(OPEN, 2, 0, 0) = 0", "add(OPEN, 3, 0, 0) = IAE", "add(OPEN, -1, 0, 0) = IAE", "run(9) = 0");
        e.run("table(1)", "table(1)", "table(1)", "insert(0, 10)", "insert(1, 11)", "insert(2, 12)",
            "program OPEN 0 2, OPEN 1 0, OPEN 2 1, REWIND 0 0, REWIND 1 0, REWIND 2 0, ROWID 0 0, ROWID 1 1, ROWID 2 2, RESULT 0 3", "run(99) = 0",
            "results = [12 10 11]");
        e.of("A cursor is SHUT, or open on a table, with or without a KEY;");
        e.run("table(1)", "insert(0, 5)", "program ROWID 0 0, RESULT 0 1", "run(9) = 3", "program OPEN 0 0, ROWID 0 0, RESULT 0 1", "run(9) = 0", "results = [NULL]",
            "program OPEN 0 0, REWIND 0 0, ROWID 0 0, RESULT 0 1", "run(9) = 0", "results = [5]");
        e.of("it is AT the row of its table that has this key, if there is one.");
        // The row goes and comes again, by another cursor, while this one keeps its key.
        e.run("table(1)", "insert(0, 5)", "insert(0, 6)",
            "program OPEN 0 0, OPEN 1 0, REWIND 0 0, REWIND 1 0, ROWID 0 1, DELETE 1, ROWID 0 2, INTEGER 5 5, INTEGER 7 6, INSERT 1 0 5, ROWID 0 3, COLUMN 0 0 4, RESULT 1 4",
            "run(99) = 0", "results = [5 NULL 5 7]");
        // A row of another table that has this key is not the one.
        e.run("table(1)", "table(1)", "insert(0, 5)", "insert(1, 5)", "program OPEN 0 0, REWIND 0 0, DELETE 0, ROWID 0 0, RESULT 0 1", "run(99) = 0",
            "results = [NULL]", "keys(1) = 5");
    }

    private void programs() {
        e.of("A PROGRAM is up to 60 INSTRUCTIONS 0, 1, ..,");
        StringBuilder sixty = new StringBuilder("program ");
        for (int k = 0; k < 60; k++) {
            sixty.append(k == 0 ? "" : ", ").append(k == 59 ? "RESULT 0 1" : "INTEGER " + k + " 0");
        }
        e.run(sixty.toString(), "code(59, 0) = 18", "code(60, 0) = IOOBE", "add(HALT, 0, 0, 0) = ISE", "run(60) = 0", "results = [58]", "run(59) = 1", "results = none");
        e.of("each with p, q and s, which are, as many as there are, in the order in which they stand here "
            + "(c a cursor, t a table, j the number of an instruction, r, a, b registers, v any number):");
        String[] all = {"HALT", "OPEN 2 1", "REWIND 2 9", "NEXT 2 9", "COLUMN 2 3 15", "ROWID 2 15", "INTEGER 99 15", "NULL 15", "SEEK 2 9 15", "EQ 14 9 15", "NE 14 9 15",
            "LT 14 9 15", "LE 14 9 15", "GT 14 9 15", "GE 14 9 15", "ISNULL 15 9", "NOTNULL 15 9", "ADD 13 14 15", "RESULT 12 4", "GOTO 60", "INSERT 2 60 11", "DELETE 2"};
        for (int op = 0; op < all.length; op++) {
            e.run("program " + all[op], "listing = " + all[op], "code(0, 0) = " + op);
        }
    }

    private void begin() {
        e.of("A RUN begins with all registers NULL, all cursors SHUT, no RESULT rows, at instruction 0.");
        String leave = "program OPEN 0 0, OPEN 1 0, OPEN 2 0, REWIND 0 0, REWIND 1 0, REWIND 2 0";
        StringBuilder set = new StringBuilder(leave);
        for (int r = 0; r <= 15; r++) {
            set.append(", INTEGER 1 ").append(r);
        }
        String before = "table(1); insert(0, 5); " + set + ", RESULT 0 4, RESULT 0 1; run(99) = 0; results = [1 1 1 1] [1]";
        e.run(before, "program RESULT 0 4, RESULT 4 4, RESULT 8 4, RESULT 12 4", "run(99) = 0",
            "results = [NULL NULL NULL NULL] [NULL NULL NULL NULL] [NULL NULL NULL NULL] [NULL NULL NULL NULL]");
        for (int c = 0; c <= 2; c++) {
            e.run(before, "program ROWID " + c + " 0", "run(99) = 3", "results = none");
            e.run(before, "program OPEN " + c + " 0, ROWID " + c + " 0, RESULT 0 1", "run(99) = 0", "results = [NULL]");
        }
        e.run(before, "program HALT", "run(99) = 0", "results = none");
        e.run(before, "run(0) = 1", "results = none");
        // The same after a run that ended otherwise, in the midst of the program.
        e.run("program INTEGER 1 0, RESULT 0 1, GOTO 2, RESULT 0 1", "run(50) = 1", "results = [1]", "run(50) = 1", "results = [1]", "run(1) = 1", "results = none");
        e.run("program RESULT 0 1, INTEGER 1 0, ROWID 0 0", "run(50) = 3", "results = [NULL]", "run(50) = 3", "results = [NULL]");
        e.run("program RESULT 0 1, INTEGER 1 0, GOTO 0", "run(4000) = 2", "result(-1, 0) = 64", "wasNull(0, 0) = true", "result(1, 0) = 1", "run(2) = 1", "results = [NULL]");
    }

    private void outcomes() {
        e.of("It has an OUTCOME: 0 it HALTED;");
        e.run("run(0) = 0");
        e.run("program HALT", "run(1) = 0", "run(4000) = 0");
        e.run("program NULL 0, HALT, ROWID 0 0", "run(2) = 0");
        e.run("program NULL 0, GOTO 3, ROWID 0 0", "run(2) = 0");
        e.of("1 an instruction (also a HALT) was to be done, and it had done FUEL already;");
        e.run("program HALT", "run(0) = 1", "run(1) = 0");
        e.run("program NULL 0", "run(0) = 1", "run(1) = 0");
        e.run("program NULL 0, HALT", "run(0) = 1", "run(1) = 1", "run(2) = 0", "run(3) = 0");
        e.run("program NULL 0, NULL 1", "run(0) = 1", "run(1) = 1", "run(2) = 0");
        e.run("program NULL 0, INTEGER 4 1, RESULT 1 1, HALT", "run(2) = 1", "results = none", "run(3) = 1", "results = [4]", "run(4) = 0", "results = [4]");
        // Exactly as much fuel as there can be: 3 instructions, 1998 turns of 2, and a HALT.
        String turns = "program INTEGER 0 0, INTEGER 1 1, INTEGER % 2, ADD 0 1 0, LT 0 3 2, HALT";
        e.run(turns.replace("%", "1998"), "run(4000) = 0", "run(3999) = 1");
        e.run(turns.replace("%", "1999"), "run(4000) = 1");
        e.run("program GOTO 0", "run(4000) = 1", "run(1) = 1", "run(0) = 1");
        // Not done for want of fuel: no row goes, none comes.
        e.run("table(1)", "insert(0, 5)", "program OPEN 0 0, REWIND 0 0, DELETE 0", "run(2) = 1", "count(0) = 1", "run(3) = 0", "count(0) = 0");
        e.run("table(1)", "program OPEN 0 0, INTEGER 1 0, INSERT 0 3 0", "run(2) = 1", "count(0) = 0", "run(3) = 0", "count(0) = 1");
        tooManyResults();
        e.of("3 a cursor was SHUT.");
        e.run("program DELETE 0", "run(1) = 3", "run(4000) = 3", "run(0) = 1");
        e.run("table(1)", "program OPEN 0 0, DELETE 0, DELETE 1", "run(3) = 3", "run(2) = 1");
        e.run("program HALT, DELETE 0", "run(9) = 0", "program GOTO 2, DELETE 0", "run(9) = 0");
        e.run("program DELETE 0, RESULT 0 1", "run(9) = 3", "results = none");
    }

    private void tooManyResults() {
        e.of("2 a 65th RESULT row was to come;");
        // 2 instructions before the loop; each turn of 4 has one row.
        String upTo = "program INTEGER 0 0, INTEGER 1 1, ADD 0 1 0, RESULT 0 1, INTEGER % 2, LT 0 2 2";
        e.run(upTo.replace("%", "63"), "run(4000) = 0", "result(-1, 0) = 63", "result(62, 0) = 63", "result(63, 0) = IOOBE");
        e.run(upTo.replace("%", "64"), "run(4000) = 0", "result(-1, 0) = 64", "result(63, 0) = 64", "result(64, 0) = IOOBE");
        e.run(upTo.replace("%", "65"), "run(4000) = 2", "result(-1, 0) = 64", "result(0, 0) = 1", "result(63, 0) = 64", "result(64, 0) = IOOBE");
        // The fuel for 64 turns, and for the 65th row: 2 + 64 * 4, then ADD and RESULT.
        e.run(upTo.replace("%", "99"), "run(258) = 1", "run(259) = 1", "result(-1, 0) = 64", "run(260) = 2", "result(-1, 0) = 64", "run(261) = 2");
        // Of 4 values each as well.
        e.run("program INTEGER 9 3, RESULT 0 4, GOTO 1", "run(4000) = 2", "result(-1, 0) = 64", "result(63, -1) = 4", "result(63, 3) = 9", "result(64, -1) = IOOBE");
        // A run after that has room again.
        e.run("program RESULT 0 1, GOTO 0", "run(4000) = 2", "program INTEGER 3 0, RESULT 0 1", "run(9) = 0", "results = [3]");
    }

    private void rowsStay() {
        e.of("Rows that came or went stay so in any case.");
        String change = "program OPEN 0 0, REWIND 0 0, DELETE 0, INTEGER 2 0, INTEGER 3 1, INSERT 0 6 0, ";
        String two = "table(1); insert(0, 1); insert(0, 7)";
        e.run(two, change + "HALT", "run(4000) = 0", "rows(0) = 2:[3] 7:[NULL]");
        e.run(two, change + "GOTO 6", "run(4000) = 1", "rows(0) = 2:[3] 7:[NULL]");
        e.run(two, change + "HALT", "run(6) = 1", "rows(0) = 2:[3] 7:[NULL]");
        e.run(two, change + "HALT", "run(5) = 1", "rows(0) = 7:[NULL]");
        e.run(two, change + "RESULT 0 1, GOTO 6", "run(4000) = 2", "rows(0) = 2:[3] 7:[NULL]");
        e.run(two, change + "DELETE 1", "run(4000) = 3", "rows(0) = 2:[3] 7:[NULL]");
        // And so the next run finds them.
        e.run(two, change + "DELETE 1", "run(4000) = 3", "program OPEN 0 0, REWIND 0 5, ROWID 0 0, RESULT 0 1, NEXT 0 2", "run(99) = 0", "results = [2] [7]");
    }

    private void constants() {
        e.of("The constants: `NONE = -1`: There is none.");
        e.same("-1", "" + TableMachine.NONE, "NONE");
        e.run("count(0) = -1", "table(1)", "ask(0, NONE) = true", "ask(0, -1) = true");
    }
}
