/** What the terms say of a question, and promises 16 to 19, sentence by sentence. */
final class QuestionEdges {
    // Tables of 1, 3 and 4 columns.
    private static final String TABLES = "table(1); table(3); table(4)";
    private static final String ONE_OUTPUT = "OPEN 0 0, REWIND 0 5, ROWID 0 2, RESULT 2 1, NEXT 0 2, HALT";

    private final Edges e;

    QuestionEdges(Edges e) {
        this.e = e;
    }

    void all() {
        e.section("Terms");
        aboutTables();
        comparisons();
        joinHolds();
        nullsDoNotHold();
        ask();
        output();
        condition();
        join();
    }

    private void aboutTables() {
        e.of("A QUESTION is about a table (cursor 0), or about a table and a second one (cursor 1);");
        e.run(TABLES, "ask(0, NONE)", "output(0, 0) = true", "output(1, 0) = false", "output(2, 0) = false", "output(-1, 0) = false");
        e.run(TABLES, "ask(0, 1)", "output(0, 0) = true", "output(1, 0) = true", "output(2, 0) = false", "output(-1, 0) = false");
        e.of("it has up to 4 OUTPUTS, each a cursor and a column, -1 standing for the key;");
        e.run("table(1)", "set(0, true, 9)", "insert(0, 5)", "ask(0, NONE)", "output(0, -1) = true", "output(0, 0) = true", "output(0, 0) = true", "compile() = 8",
            "output(0, -1) = true", "output(0, -1) = false", "output(0, 0) = false", "compile() = 9", "run(99) = 0", "results = [5 9 9 5]");
        e.of("up to 4 CONDITIONS: a cursor, a column (or -1),");
        e.run("table(1)", "table(1)", "ask(0, 1)", "output(0, -1)", "condition(0, 0, 7, 0) = true", "condition(0, -1, 7, 0) = true", "condition(1, 0, 7, 0) = true",
            "compile() = 18", "condition(1, -1, 7, 0) = true", "compile() = 21", "condition(0, 0, 7, 0) = false", "condition(1, -1, 0, 0) = false", "compile() = 21");
    }

    private void comparisons() {
        e.of("one of 0 =, 1 not =, 2 <, 3 <=, 4 >, 5 >=, 6 is NULL, 7 is not NULL,");
        String rows = "table(1); set(0, true, -1); insert(0, 19); set(0, true, 0); insert(0, 20); set(0, true, 1); insert(0, 21); set(0, false, 0); insert(0, 22)";
        String[] byColumn = {"[20]", "[19] [21]", "[19]", "[19] [20]", "[21]", "[20] [21]", "[22]", "[19] [20] [21]"};
        String[] byKey = {"[20]", "[19] [21] [22]", "[19]", "[19] [20]", "[21] [22]", "[20] [21] [22]", "none", "[19] [20] [21] [22]"};
        for (int c = 0; c <= 7; c++) {
            e.run(rows, "ask(0, NONE)", "output(0, -1)", "condition(0, 0, " + c + ", 0) = true", "compile()", "run(999) = 0", "results = " + byColumn[c]);
            e.run(rows, "ask(0, NONE)", "output(0, -1)", "condition(0, -1, " + c + ", 20) = true", "compile()", "run(999) = 0", "results = " + byKey[c]);
            e.run(rows, "table(1)", "insert(1, 1)", "ask(1, 0)", "output(1, -1)", "condition(1, 0, " + c + ", 0) = true", "compile()", "run(999) = 0",
                "results = " + byColumn[c]);
            e.run(rows, "table(1)", "insert(1, 1)", "ask(1, 0)", "output(1, -1)", "condition(1, -1, " + c + ", 20) = true", "compile()", "run(999) = 0",
                "results = " + byKey[c]);
        }
        e.run("table(1)", "ask(0, NONE)", "output(0, -1)", "condition(0, 0, -1, 0) = false", "condition(0, 0, 8, 0) = false");
        e.of("and a number (of no matter for 6, 7);");
        for (String number : "MIN -1 0 1 20 MAX".split(" ")) {
            for (int c = 6; c <= 7; c++) {
                e.run(rows, "ask(0, NONE)", "output(0, -1)", "condition(0, 0, " + c + ", " + number + ") = true", "compile() = 9",
                    "listing = OPEN 0 0, REWIND 0 8, COLUMN 0 0 0, " + (c == 6 ? "ISNULL" : "NOTNULL") + " 0 5, GOTO 7, ROWID 0 2, RESULT 2 1, NEXT 0 2, HALT",
                    "run(999) = 0", "results = " + byColumn[c]);
            }
        }
        e.run("table(1)", "insert(0, 2147483647)", "insert(0, 2147483648)", "insert(0, -2147483648)", "insert(0, -2147483649)", "ask(0, NONE)", "output(0, -1)",
            "condition(0, -1, 3, MAX) = true", "condition(0, -1, 5, MIN) = true", "compile()", "run(999) = 0", "results = [-2147483648] [2147483647]");
    }

    private static final String TWO = "table(2); table(2); set(0, true, 1); set(1, true, 7); insert(0, 10); set(0, true, 2); insert(0, 11); set(0, true, 7); set(1, true, 2); "
        + "insert(1, 1); set(0, true, 10); set(1, true, 1); insert(1, 7)";

    private void joinHolds() {
        e.of("and perhaps, with two tables, a JOIN: a column (or -1, the key) of the first one is the same as one (likewise) of the second one.");
        String ask = "ask(0, 1); output(0, -1); output(1, -1)";
        // Rows 10: 1 7, 11: 2 7 and 1: 7 2, 7: 10 1.
        e.run(TWO, ask, "compile()", "run(999) = 0", "results = [10 1] [10 7] [11 1] [11 7]");
        e.run(TWO, ask, "join(-1, 0) = true", "compile()", "run(999) = 0", "results = [10 7]");
        e.run(TWO, ask, "join(0, -1) = true", "compile()", "run(999) = 0", "results = [10 1]");
        e.run(TWO, ask, "join(1, 0) = true", "compile()", "run(999) = 0", "results = [10 1] [11 1]");
        e.run(TWO, ask, "join(0, 1) = true", "compile()", "run(999) = 0", "results = [10 7] [11 1]");
        e.run(TWO, ask, "join(-1, -1) = true", "compile()", "run(999) = 0", "results = none");
        e.run(TWO, "ask(0, 0)", "output(0, -1)", "output(1, -1)", "join(-1, -1) = true", "compile()", "run(999) = 0", "results = [10 10] [11 11]");
        e.run(TWO, "ask(0, NONE)", "join(-1, -1) = false");
    }

    private void nullsDoNotHold() {
        e.of("A condition or JOIN in which a NULL is compared does not hold.");
        for (int c = 0; c <= 5; c++) {
            for (String number : "MIN -1 0 1 MAX".split(" ")) {
                e.run("table(1)", "insert(0, 0)", "ask(0, NONE)", "output(0, -1)", "condition(0, 0, " + c + ", " + number + ")", "compile()", "run(99) = 0", "results = none");
            }
        }
        String ask = "ask(0, 1); output(0, -1); join(0, 0); compile(); run(99) = 0";
        e.run("table(1)", "table(1)", "insert(0, 1)", "insert(1, 1)", ask, "results = none");
        e.run("table(1)", "table(1)", "insert(0, 1)", "set(0, true, 0)", "insert(1, 1)", ask, "results = none");
        e.run("table(1)", "table(1)", "insert(1, 1)", "set(0, true, 0)", "insert(0, 1)", ask, "results = none");
        e.run("table(1)", "table(1)", "set(0, true, 0)", "insert(0, 1)", "insert(1, 1)", ask, "results = [1]");
    }

    private void ask() {
        e.section("Promise 16");
        e.of("A new question about a table, or (u not NONE) two (they may be the same): true;");
        for (int t = 0; t <= 2; t++) {
            e.run(TABLES, "ask(" + t + ", NONE) = true", "output(0, -1)", "compile() = 6", "listing = " + ONE_OUTPUT.replace("OPEN 0 0", "OPEN 0 " + t));
            for (int u = 0; u <= 2; u++) {
                e.run(TABLES, "ask(" + t + ", " + u + ") = true", "output(0, -1)", "compile() = 9",
                    "listing = OPEN 0 " + t + ", OPEN 1 " + u + ", REWIND 0 8, REWIND 1 7, ROWID 0 2, RESULT 2 1, NEXT 1 4, NEXT 0 3, HALT");
            }
        }
        // Nothing of an older question is left: outputs, conditions, the JOIN, a second table.
        String old = "ask(1, 2); output(0, 0); output(1, 3); output(0, 1); output(1, 1); condition(0, -1, 0, 3); condition(1, 2, 4, 4); condition(0, 2, 6, 0); "
            + "condition(1, -1, 5, 6); join(2, 3)";
        e.run(TABLES, old, "ask(0, NONE) = true", "compile() = ISE", "output(0, -1) = true", "compile() = 6", "listing = " + ONE_OUTPUT, "output(1, 0) = false",
            "join(0, 0) = false");
        e.run(TABLES, old, "ask(1, 2) = true", "compile() = ISE", "output(0, -1) = true", "compile() = 9",
            "listing = OPEN 0 1, OPEN 1 2, REWIND 0 8, REWIND 1 7, ROWID 0 2, RESULT 2 1, NEXT 1 4, NEXT 0 3, HALT");
        e.run(TABLES, old, "ask(1, 2) = true", "output(0, 0) = true", "output(0, 0) = true", "output(0, 0) = true", "output(0, 0) = true", "output(0, 0) = false",
            "condition(0, 0, 6, 0) = true", "condition(0, 0, 6, 0) = true", "condition(0, 0, 6, 0) = true", "condition(0, 0, 6, 0) = true", "condition(0, 0, 6, 0) = false");
        // A table that comes later can be asked for then.
        e.run("table(1)", "ask(0, 1) = false", "table(1)", "ask(0, 1) = true");
        e.of("false if there are no such tables.");
        StringBuilder made = new StringBuilder("run(0) = 0");
        for (int tables = 0; tables <= 3; tables++) {
            for (int t = -2; t <= 3; t++) {
                for (int u = -2; u <= 3; u++) {
                    boolean there = t >= 0 && t < tables && u >= -1 && u < tables;
                    e.run(made.toString(), "ask(" + t + ", " + u + ") = " + there);
                }
            }
            e.run(made.toString(), "ask(MIN, NONE) = false", "ask(MAX, NONE) = false", "ask(0, MIN) = false", "ask(0, MAX) = false");
            made.append("; table(1)");
        }
        // Refused, it leaves the question that there is, or none.
        e.run("table(1)", "ask(1, NONE) = false", "output(0, 0) = false", "compile() = ISE");
        e.run("table(1)", "ask(0, NONE)", "output(0, -1)", "ask(1, NONE) = false", "ask(0, 1) = false", "ask(0, -2) = false", "ask(-1, 0) = false", "compile() = 6",
            "listing = " + ONE_OUTPUT, "output(0, 0) = true");
    }

    private void output() {
        e.section("Promise 17");
        e.of("One more OUTPUT of the question: true;");
        e.run(TABLES, "ask(2, NONE)", "output(0, 3) = true", "compile() = 6", "output(0, -1) = true", "compile() = 7", "output(0, 0) = true", "compile() = 8",
            "output(0, 3) = true", "compile() = 9",
            "listing = OPEN 0 2, REWIND 0 8, COLUMN 0 3 2, ROWID 0 3, COLUMN 0 0 4, COLUMN 0 3 5, RESULT 2 4, NEXT 0 2, HALT");
        e.of("false if there are 4,");
        e.run(TABLES, "ask(2, NONE)", "output(0, 0) = true", "output(0, 1) = true", "output(0, 2) = true", "output(0, 3) = true", "output(0, -1) = false",
            "output(0, 0) = false", "output(0, 4) = false", "compile() = 9",
            "listing = OPEN 0 2, REWIND 0 8, COLUMN 0 0 2, COLUMN 0 1 3, COLUMN 0 2 4, COLUMN 0 3 5, RESULT 2 4, NEXT 0 2, HALT");
        // Four in all, not of each cursor; those that were refused do not count.
        e.run(TABLES, "ask(0, 1)", "output(0, 0) = true", "output(1, 0) = true", "output(0, 1) = false", "output(0, 0) = true", "output(1, 0) = true",
            "output(0, 0) = false", "output(1, 0) = false");
        e.of("no question,");
        e.run("output(0, -1) = false", "output(0, 0) = false");
        e.run(TABLES, "output(0, -1) = false", "output(0, 0) = false", "output(1, 0) = false", "ask(3, NONE) = false", "output(0, -1) = false");
        e.of("no such cursor in it,");
        for (String cursor : "MIN -1 1 2 3 MAX".split(" ")) {
            e.run(TABLES, "ask(2, NONE)", "output(" + cursor + ", 0) = false", "output(" + cursor + ", -1) = false", "compile() = ISE", "output(0, 0) = true");
        }
        for (String cursor : "MIN -1 2 3 MAX".split(" ")) {
            e.run(TABLES, "ask(2, 2)", "output(" + cursor + ", 0) = false", "output(" + cursor + ", -1) = false", "compile() = ISE", "output(0, 0) = true",
                "output(1, 0) = true");
        }
        e.of("or no such column of its table.");
        eachColumn("output(#, %) = ");
    }

    /** A call with # in place of the cursor and % in place of the column, for the columns of tables of every width and those just beyond. */
    private void eachColumn(String call) {
        for (int n = 1; n <= 4; n++) {
            for (int k = -2; k <= 5; k++) {
                boolean there = k >= -1 && k < n;
                String row = call.replace("%", "" + k) + there;
                e.run("table(" + n + ")", "ask(0, NONE)", row.replace("#", "0"));
                // The other table is wider or narrower.
                e.run("table(" + n + ")", "table(4)", "ask(0, 1)", row.replace("#", "0"));
                e.run("table(" + n + ")", "table(1)", "ask(0, 1)", row.replace("#", "0"));
                e.run("table(" + n + ")", "table(4)", "ask(1, 0)", row.replace("#", "1"));
                e.run("table(" + n + ")", "table(1)", "ask(1, 0)", row.replace("#", "1"));
            }
            for (String k : "MIN MAX".split(" ")) {
                e.run("table(" + n + ")", "ask(0, NONE)", call.replace("#", "0").replace("%", k) + "false");
            }
        }
    }

    private void condition() {
        e.section("Promise 18");
        e.of("One more CONDITION: true;");
        e.run("table(2)", "ask(0, NONE)", "output(0, -1)", "condition(0, 1, 2, -9) = true", "compile() = 10", "condition(0, -1, 3, MAX) = true", "compile() = 14",
            "condition(0, 0, 6, 0) = true", "compile() = 17", "condition(0, 1, 1, MIN) = true", "compile() = 21",
            "listing = OPEN 0 0, REWIND 0 20, COLUMN 0 1 0, INTEGER -9 1, LT 0 6 1, GOTO 19, ROWID 0 0, INTEGER 2147483647 1, LE 0 10 1, GOTO 19, "
                + "COLUMN 0 0 0, ISNULL 0 13, GOTO 19, COLUMN 0 1 0, INTEGER -2147483648 1, NE 0 17 1, GOTO 19, ROWID 0 2, RESULT 2 1, NEXT 0 2, HALT");
        e.of("false likewise,");
        e.run("condition(0, -1, 0, 0) = false", "condition(0, 0, 0, 0) = false");
        e.run(TABLES, "condition(0, -1, 0, 0) = false", "condition(0, 0, 0, 0) = false", "ask(3, NONE) = false", "condition(0, -1, 0, 0) = false");
        for (int c = 0; c <= 7; c++) {
            e.run(TABLES, "ask(0, NONE)", "output(0, -1)", "condition(0, 0, 6, 0) = true", "condition(0, 0, 6, 0) = true", "condition(0, 0, 6, 0) = true", "compile() = 15",
                "condition(0, 0, 6, 0) = true", "compile() = 18", "condition(0, 0, " + c + ", 0) = false", "condition(0, -1, " + c + ", 0) = false", "compile() = 18",
                "code(1, 0) = 2");
        }
        // Four in all, not of each cursor; those that were refused do not count.
        e.run(TABLES, "ask(0, 1)", "output(0, -1)", "condition(0, 0, 6, 0) = true", "condition(1, 0, 6, 0) = true", "condition(0, 1, 6, 0) = false",
            "condition(0, 0, 8, 0) = false", "condition(0, 0, 6, 0) = true", "condition(1, 0, 6, 0) = true", "condition(0, 0, 6, 0) = false", "condition(1, 0, 6, 0) = false");
        for (String cursor : "MIN -1 1 2 3 MAX".split(" ")) {
            e.run(TABLES, "ask(2, NONE)", "output(0, -1)", "condition(" + cursor + ", 0, 6, 0) = false", "condition(" + cursor + ", -1, 0, 0) = false", "compile() = 6",
                "condition(0, 0, 6, 0) = true");
        }
        for (String cursor : "MIN -1 2 3 MAX".split(" ")) {
            e.run(TABLES, "ask(2, 2)", "output(0, -1)", "condition(" + cursor + ", 0, 6, 0) = false", "condition(" + cursor + ", -1, 0, 0) = false", "compile() = 9",
                "condition(0, 0, 6, 0) = true", "condition(1, 0, 6, 0) = true");
        }
        eachColumn("condition(#, %, 0, 0) = ");
        eachColumn("condition(#, %, 7, 0) = ");
        e.of("or if there is no such comparison.");
        for (String c : "MIN -2 -1 8 9 MAX".split(" ")) {
            e.run(TABLES, "ask(0, 1)", "output(0, -1)", "condition(0, 0, " + c + ", 0) = false", "condition(0, -1, " + c + ", 0) = false", "condition(1, 2, " + c + ", 0) = false",
                "compile() = 9");
        }
        for (int c = 0; c <= 7; c++) {
            e.run(TABLES, "ask(0, 1)", "output(0, -1)", "condition(0, 0, " + c + ", 0) = true", "condition(1, 2, " + c + ", MIN) = true", "condition(1, -1, " + c + ", MAX) = true");
        }
    }

    private static String joined(String first, String second) {
        return "listing = OPEN 0 1, OPEN 1 2, REWIND 0 12, REWIND 1 11, " + first + ", " + second + ", EQ 0 8 1, GOTO 10, ROWID 0 2, RESULT 2 1, NEXT 1 4, NEXT 0 3, HALT";
    }

    private void join() {
        e.section("Promise 19");
        String two = TABLES + "; ask(1, 2); output(0, -1)";
        e.of("The JOIN, in place of another one: true;");
        e.run(two, "compile() = 9", "join(2, 3) = true", "compile() = 13", joined("COLUMN 0 2 0", "COLUMN 1 3 1"));
        e.run(two, "join(2, 3) = true", "join(-1, 0) = true", "compile() = 13", joined("ROWID 0 0", "COLUMN 1 0 1"), "join(0, -1) = true", "compile() = 13",
            joined("COLUMN 0 0 0", "ROWID 1 1"), "join(-1, -1) = true", "compile() = 13", joined("ROWID 0 0", "ROWID 1 1"));
        // It is no condition: there may be 4 of these beside it, before or after it.
        e.run(two, "condition(0, 0, 6, 0)", "condition(0, 0, 6, 0)", "join(0, 0) = true", "condition(0, 0, 6, 0) = true", "condition(0, 0, 6, 0) = true",
            "condition(0, 0, 6, 0) = false", "join(1, 1) = true", "compile() = 25");
        e.of("false if there are not two tables,");
        e.run("join(-1, -1) = false", "join(0, 0) = false");
        e.run(TABLES, "join(-1, -1) = false", "join(0, 0) = false", "ask(0, 3) = false", "join(0, 0) = false");
        for (int t = 0; t <= 2; t++) {
            e.run(TABLES, "ask(" + t + ", NONE)", "output(0, -1)", "join(-1, -1) = false", "join(0, 0) = false", "join(-1, 0) = false", "join(0, -1) = false", "compile() = 6");
        }
        e.run(TABLES, "ask(0, 1)", "join(0, 0) = true", "ask(0, NONE)", "join(0, 0) = false", "ask(0, 0)", "join(0, 0) = true");
        e.of("or no such columns.");
        // The first table has 3 columns, the second one 4; and the other way round.
        for (int k = -2; k <= 5; k++) {
            for (int l = -2; l <= 5; l++) {
                boolean there = k >= -1 && k < 3 && l >= -1 && l < 4;
                e.run(TABLES, "ask(1, 2)", "output(0, -1)", "join(" + k + ", " + l + ") = " + there, "compile() = " + (there ? 13 : 9));
                boolean turned = k >= -1 && k < 4 && l >= -1 && l < 3;
                e.run(TABLES, "ask(2, 1)", "output(0, -1)", "join(" + k + ", " + l + ") = " + turned, "compile() = " + (turned ? 13 : 9));
            }
        }
        for (String wrong : "MIN MAX".split(" ")) {
            e.run(two, "join(" + wrong + ", 0) = false", "join(0, " + wrong + ") = false", "compile() = 9");
        }
        // Refused, it leaves the JOIN that there is.
        e.run(two, "join(2, 3) = true", "join(3, 3) = false", "join(2, 4) = false", "join(-2, 0) = false", "compile() = 13", joined("COLUMN 0 2 0", "COLUMN 1 3 1"));
    }
}
