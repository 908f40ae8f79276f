/** The program that a question is compiled to, and promise 20, sentence by sentence. */
final class CompileEdges {
    private static final String TABLES = "table(2); table(4)";
    private static final String ONE = TABLES + "; ask(1, NONE)";
    private static final String TWO = TABLES + "; ask(0, 1)";

    private final Edges e;

    CompileEdges(Edges e) {
        this.e = e;
    }

    void all() {
        e.section("Terms");
        opens();
        firstLoop();
        seeks();
        conditionsOfTheFirst();
        conditionsByKind();
        secondLoop();
        secondSeeks();
        conditionsOfTheSecond();
        joins();
        outputs();
        theEnd();
        e.section("Promise 20");
        becomesTheProgram();
        everyCombination();
        refuses();
    }

    /** The program that is due, one instruction after another; its length is that of the list. */
    private void compiled(String question, String... program) {
        e.run(question, "compile() = " + program.length, "listing = " + String.join(", ", program), "code(" + program.length + ", 0) = IOOBE");
    }

    private void opens() {
        e.of("It is COMPILED to this program: OPEN 0; with two tables OPEN 1.");
        compiled(ONE + "; output(0, 3)", "OPEN 0 1", "REWIND 0 5", "COLUMN 0 3 2", "RESULT 2 1", "NEXT 0 2", "HALT");
        compiled(TWO + "; output(0, 1)", "OPEN 0 0", "OPEN 1 1", "REWIND 0 8", "REWIND 1 7", "COLUMN 0 1 2", "RESULT 2 1", "NEXT 1 4", "NEXT 0 3", "HALT");
        compiled(TABLES + "; ask(1, 1); output(1, 3)", "OPEN 0 1", "OPEN 1 1", "REWIND 0 8", "REWIND 1 7", "COLUMN 1 3 2", "RESULT 2 1", "NEXT 1 4", "NEXT 0 3", "HALT");
    }

    private void firstLoop() {
        e.of("Then cursor 0's LOOP: REWIND 0 to the end;");
        compiled(ONE + "; output(0, -1); output(0, 0); output(0, 1); output(0, 2)", "OPEN 0 1", "REWIND 0 8", "ROWID 0 2", "COLUMN 0 0 3", "COLUMN 0 1 4", "COLUMN 0 2 5",
            "RESULT 2 4", "NEXT 0 2", "HALT");
        // Conditions on columns, on the key by the other comparisons, or on cursor 1 alone, leave it a REWIND.
        for (int c = 0; c <= 7; c++) {
            boolean numbered = c <= 5;
            e.run(ONE, "output(0, -1)", "condition(0, 0, " + c + ", 5)", "compile() = " + (numbered ? 10 : 9), "code(1, 0) = 2", "code(1, 1) = 0", "code(1, 2) = " + (numbered ? 9 : 8));
        }
        for (int c : new int[] {1, 2, 3, 6, 7}) {
            e.run(ONE, "output(0, -1)", "condition(0, -1, " + c + ", 5)", "compile() = " + (c <= 5 ? 10 : 9), "code(1, 0) = 2", "code(1, 2) = " + (c <= 5 ? 9 : 8));
        }
        for (int c : new int[] {0, 4, 5}) {
            e.run(TWO, "output(0, -1)", "condition(1, -1, " + c + ", 5)", "compile() = 14", "code(2, 0) = 2", "code(2, 1) = 0", "code(2, 2) = 13");
        }
    }

    private void seeks() {
        e.of("but if some condition on cursor 0 is about the key with = , > or >= , then for the first such one INTEGER its number to 0, and SEEK 0 to the end by 0");
        String[] ops = {"EQ", "NE", "LT", "LE", "GT", "GE"};
        for (int c : new int[] {0, 4, 5}) {
            for (String number : "-2147483648 -1 0 40 2147483647".split(" ")) {
                compiled(ONE + "; output(0, 0); condition(0, -1, " + c + ", " + number + ")", "OPEN 0 1", "INTEGER " + number + " 0", "SEEK 0 10 0", "ROWID 0 0",
                    "INTEGER " + number + " 1", ops[c] + " 0 7 1", "GOTO 9", "COLUMN 0 0 2", "RESULT 2 1", "NEXT 0 3", "HALT");
            }
        }
        // The first such one, wherever it stands among the four, and whatever stands before and behind it.
        for (int first = 0; first < 4; first++) {
            StringBuilder question = new StringBuilder(ONE + "; output(0, 0)");
            for (int i = 0; i < 4; i++) {
                String before = i % 2 == 0 ? "condition(0, -1, 3, " + (70 + i) + ")" : "condition(0, 0, 0, " + (70 + i) + ")";
                question.append("; ").append(i < first ? before : "condition(0, -1, " + new int[] {5, 0, 4, 5}[i] + ", " + (70 + i) + ")");
            }
            e.run(question.toString(), "compile() = 23", "code(1, 0) = 6", "code(1, 1) = " + (70 + first), "code(1, 2) = 0", "code(2, 0) = 8", "code(2, 1) = 0", "code(2, 2) = 22",
                "code(2, 3) = 0", "code(3, 0) = 5", "code(21, 0) = 3", "code(21, 2) = 3");
        }
        e.of("(it stands among the conditions below all the same).");
        compiled(ONE + "; output(0, 0); condition(0, 2, 6, 0); condition(0, -1, 4, 8)", "OPEN 0 1", "INTEGER 8 0", "SEEK 0 13 0", "COLUMN 0 2 0", "ISNULL 0 6", "GOTO 12",
            "ROWID 0 0", "INTEGER 8 1", "GT 0 10 1", "GOTO 12", "COLUMN 0 0 2", "RESULT 2 1", "NEXT 0 3", "HALT");
        // So = finds one row, and > leaves out the row that SEEK finds.
        String rows = "table(1); insert(0, 3); insert(0, 4); insert(0, 5); ask(0, NONE); output(0, -1)";
        e.run(rows, "condition(0, -1, 0, 4)", "compile()", "run(99) = 0", "results = [4]");
        e.run(rows, "condition(0, -1, 4, 4)", "compile()", "run(99) = 0", "results = [5]");
        e.run(rows, "condition(0, -1, 5, 4)", "compile()", "run(99) = 0", "results = [4] [5]");
        e.run(rows, "condition(0, -1, 5, 6)", "compile()", "run(99) = 0", "results = none");
        e.run(rows, "condition(0, -1, 5, 4)", "condition(0, -1, 4, 4)", "compile()", "run(99) = 0", "results = [5]");
    }

    private void conditionsOfTheFirst() {
        e.of("The loop's top: for each condition on cursor 0, in the order in which they were made: its column (COLUMN or ROWID) to 0;");
        compiled(ONE + "; output(0, -1); condition(0, 3, 1, 6); condition(0, -1, 2, 7); condition(0, 0, 3, 8); condition(0, 3, 0, 9)",
            "OPEN 0 1", "REWIND 0 21",
            "COLUMN 0 3 0", "INTEGER 6 1", "NE 0 6 1", "GOTO 20",
            "ROWID 0 0", "INTEGER 7 1", "LT 0 10 1", "GOTO 20",
            "COLUMN 0 0 0", "INTEGER 8 1", "LE 0 14 1", "GOTO 20",
            "COLUMN 0 3 0", "INTEGER 9 1", "EQ 0 18 1", "GOTO 20",
            "ROWID 0 2", "RESULT 2 1", "NEXT 0 2", "HALT");
        compiled(ONE + "; output(0, -1); output(0, 0); output(0, 1); output(0, 2); condition(0, -1, 7, 6); condition(0, 3, 6, 6); condition(0, 2, 6, 6); condition(0, 1, 7, 6)",
            "OPEN 0 1", "REWIND 0 20",
            "ROWID 0 0", "NOTNULL 0 5", "GOTO 19",
            "COLUMN 0 3 0", "ISNULL 0 8", "GOTO 19",
            "COLUMN 0 2 0", "ISNULL 0 11", "GOTO 19",
            "COLUMN 0 1 0", "NOTNULL 0 14", "GOTO 19",
            "ROWID 0 2", "COLUMN 0 0 3", "COLUMN 0 1 4", "COLUMN 0 2 5", "RESULT 2 4", "NEXT 0 2", "HALT");
        // With two tables and all four on cursor 0, there is none in cursor 1's loop.
        compiled(TWO + "; output(1, 3); condition(0, 1, 6, 6); condition(0, 0, 6, 6); condition(0, -1, 6, 6); condition(0, 0, 7, 6)",
            "OPEN 0 0", "OPEN 1 1", "REWIND 0 20",
            "COLUMN 0 1 0", "ISNULL 0 6", "GOTO 19",
            "COLUMN 0 0 0", "ISNULL 0 9", "GOTO 19",
            "ROWID 0 0", "ISNULL 0 12", "GOTO 19",
            "COLUMN 0 0 0", "NOTNULL 0 15", "GOTO 19",
            "REWIND 1 19", "COLUMN 1 3 2", "RESULT 2 1", "NEXT 1 16", "NEXT 0 3", "HALT");
    }

    private void conditionsByKind() {
        e.of("for 0 to 5 INTEGER its number to 1, and the instruction 9 to 14 for it with 0, 1;");
        String[] ops = {"EQ", "NE", "LT", "LE", "GT", "GE"};
        for (int c = 0; c <= 5; c++) {
            for (String number : "-2147483648 -9 0 2147483647".split(" ")) {
                compiled(ONE + "; output(0, -1); condition(0, 1, " + c + ", " + number + ")", "OPEN 0 1", "REWIND 0 9", "COLUMN 0 1 0", "INTEGER " + number + " 1",
                    ops[c] + " 0 6 1", "GOTO 8", "ROWID 0 2", "RESULT 2 1", "NEXT 0 2", "HALT");
            }
        }
        e.of("for 6, 7 the instruction 15, 16 with 0;");
        for (int c = 6; c <= 7; c++) {
            for (String k : "-1 0 3".split(" ")) {
                compiled(ONE + "; output(0, -1); condition(0, " + k + ", " + c + ", 77)", "OPEN 0 1", "REWIND 0 8", k.equals("-1") ? "ROWID 0 0" : "COLUMN 0 " + k + " 0",
                    (c == 6 ? "ISNULL" : "NOTNULL") + " 0 5", "GOTO 7", "ROWID 0 2", "RESULT 2 1", "NEXT 0 2", "HALT");
            }
        }
        e.of("these go to the one behind the next; that is a GOTO to the loop's NEXT.");
        compiled(TWO + "; output(0, -1); condition(0, 0, 1, 6); condition(1, 0, 1, 7)", "OPEN 0 0", "OPEN 1 1", "REWIND 0 16", "COLUMN 0 0 0", "INTEGER 6 1", "NE 0 7 1",
            "GOTO 15", "REWIND 1 15", "COLUMN 1 0 0", "INTEGER 7 1", "NE 0 12 1", "GOTO 14", "ROWID 0 2", "RESULT 2 1", "NEXT 1 8", "NEXT 0 3", "HALT");
        // A row for which the condition does not hold is left out, and those behind it are not.
        e.run("table(1)", "set(0, true, 1)", "insert(0, 1)", "set(0, true, 2)", "insert(0, 2)", "set(0, true, 1)", "insert(0, 3)", "ask(0, NONE)", "output(0, -1)",
            "condition(0, 0, 0, 1)", "compile()", "run(99) = 0", "results = [1] [3]");
    }

    private void secondLoop() {
        e.of("With two tables, in place of the outputs, cursor 1's loop");
        compiled(TWO + "; output(1, 0); output(0, 0)", "OPEN 0 0", "OPEN 1 1", "REWIND 0 9", "REWIND 1 8", "COLUMN 1 0 2", "COLUMN 0 0 3", "RESULT 2 2", "NEXT 1 4", "NEXT 0 3",
            "HALT");
        compiled(TWO + "; output(1, 0); condition(0, 1, 7, 0)", "OPEN 0 0", "OPEN 1 1", "REWIND 0 11", "COLUMN 0 1 0", "NOTNULL 0 6", "GOTO 10", "REWIND 1 10", "COLUMN 1 0 2",
            "RESULT 2 1", "NEXT 1 7", "NEXT 0 3", "HALT");
        e.run("table(1)", "table(1)", "insert(0, 1)", "insert(0, 2)", "insert(1, 3)", "insert(1, 4)", "ask(0, 1)", "output(0, -1)", "output(1, -1)", "compile()", "run(99) = 0",
            "results = [1 3] [1 4] [2 3] [2 4]");
        e.run("table(1)", "table(1)", "insert(0, 1)", "ask(0, 1)", "output(0, -1)", "compile()", "run(99) = 0", "results = none", "ask(1, 0)", "output(0, -1)", "compile()",
            "run(99) = 0", "results = none");
    }

    private void secondSeeks() {
        e.of("(REWIND 1 to loop 0's NEXT, or INTEGER and SEEK likewise; top;");
        // No SEEK, one for cursor 0, one for cursor 1, one each.
        compiled(TWO + "; output(0, -1); condition(0, 0, 0, 8); condition(1, 0, 0, 9)", "OPEN 0 0", "OPEN 1 1", "REWIND 0 16", "COLUMN 0 0 0", "INTEGER 8 1", "EQ 0 7 1",
            "GOTO 15", "REWIND 1 15", "COLUMN 1 0 0", "INTEGER 9 1", "EQ 0 12 1", "GOTO 14", "ROWID 0 2", "RESULT 2 1", "NEXT 1 8", "NEXT 0 3", "HALT");
        compiled(TWO + "; output(0, -1); condition(0, -1, 0, 8); condition(1, 0, 0, 9)", "OPEN 0 0", "OPEN 1 1", "INTEGER 8 0", "SEEK 0 17 0", "ROWID 0 0", "INTEGER 8 1",
            "EQ 0 8 1", "GOTO 16", "REWIND 1 16", "COLUMN 1 0 0", "INTEGER 9 1", "EQ 0 13 1", "GOTO 15", "ROWID 0 2", "RESULT 2 1", "NEXT 1 9", "NEXT 0 4", "HALT");
        compiled(TWO + "; output(0, -1); condition(0, 0, 0, 8); condition(1, -1, 0, 9)", "OPEN 0 0", "OPEN 1 1", "REWIND 0 17", "COLUMN 0 0 0", "INTEGER 8 1", "EQ 0 7 1",
            "GOTO 16", "INTEGER 9 0", "SEEK 1 16 0", "ROWID 1 0", "INTEGER 9 1", "EQ 0 13 1", "GOTO 15", "ROWID 0 2", "RESULT 2 1", "NEXT 1 9", "NEXT 0 3", "HALT");
        compiled(TWO + "; output(0, -1); condition(0, -1, 0, 8); condition(1, -1, 0, 9)", "OPEN 0 0", "OPEN 1 1", "INTEGER 8 0", "SEEK 0 18 0", "ROWID 0 0", "INTEGER 8 1",
            "EQ 0 8 1", "GOTO 17", "INTEGER 9 0", "SEEK 1 17 0", "ROWID 1 0", "INTEGER 9 1", "EQ 0 14 1", "GOTO 16", "ROWID 0 2", "RESULT 2 1", "NEXT 1 10", "NEXT 0 4", "HALT");
        // By =, > and >= alone, for the first such one of its own.
        for (int c = 0; c <= 7; c++) {
            boolean seek = c == 0 || c == 4 || c == 5;
            e.run(TWO, "output(0, -1)", "condition(1, -1, " + c + ", 9)", "condition(1, -1, 1, 3)", "compile()", "code(3, 0) = " + (seek ? 6 : 2), "code(4, 0) = " + (seek ? 8 : 5));
        }
        e.run(TWO, "output(0, -1)", "condition(0, -1, 5, 6)", "condition(1, 0, 0, 7)", "condition(1, -1, 4, 8)", "condition(1, -1, 0, 9)", "compile() = 27", "code(2, 1) = 6",
            "code(8, 0) = 6", "code(8, 1) = 8", "code(8, 2) = 0", "code(9, 0) = 8", "code(9, 1) = 1", "code(9, 2) = 25", "code(9, 3) = 0", "code(24, 0) = 3", "code(24, 2) = 10");
        // When the second loop comes to nothing, the first one goes on.
        e.run("table(1)", "table(1)", "insert(0, 1)", "insert(0, 2)", "insert(1, 5)", "ask(0, 1)", "output(0, -1)", "output(1, -1)", "condition(1, -1, 4, 5)", "compile()",
            "run(99) = 0", "results = none", "insert(1, 6)", "run(99) = 0", "results = [1 6] [2 6]");
    }

    private void conditionsOfTheSecond() {
        e.of("its conditions;");
        compiled(TWO + "; output(0, 0); output(0, 1); output(1, 0); output(1, -1); join(1, 2); condition(1, 3, 4, 6); condition(1, 2, 6, 7); condition(1, 1, 5, 8); condition(1, -1, 7, 9)",
            "OPEN 0 0", "OPEN 1 1", "REWIND 0 29", "REWIND 1 28",
            "COLUMN 1 3 0", "INTEGER 6 1", "GT 0 8 1", "GOTO 27",
            "COLUMN 1 2 0", "ISNULL 0 11", "GOTO 27",
            "COLUMN 1 1 0", "INTEGER 8 1", "GE 0 15 1", "GOTO 27",
            "ROWID 1 0", "NOTNULL 0 18", "GOTO 27",
            "COLUMN 0 1 0", "COLUMN 1 2 1", "EQ 0 22 1", "GOTO 27",
            "COLUMN 0 0 2", "COLUMN 0 1 3", "COLUMN 1 0 4", "ROWID 1 5", "RESULT 2 4", "NEXT 1 4", "NEXT 0 3", "HALT");
        // Made by turns, each stands in its own loop, in their order.
        compiled(TWO + "; output(0, -1); condition(1, 3, 6, 0); condition(0, 1, 6, 0); condition(1, 2, 7, 0); condition(0, 0, 7, 0)",
            "OPEN 0 0", "OPEN 1 1", "REWIND 0 20",
            "COLUMN 0 1 0", "ISNULL 0 6", "GOTO 19",
            "COLUMN 0 0 0", "NOTNULL 0 9", "GOTO 19",
            "REWIND 1 19",
            "COLUMN 1 3 0", "ISNULL 0 13", "GOTO 18",
            "COLUMN 1 2 0", "NOTNULL 0 16", "GOTO 18",
            "ROWID 0 2", "RESULT 2 1", "NEXT 1 10", "NEXT 0 3", "HALT");
    }

    private void joins() {
        e.of("the JOIN as a condition: the first one's column to 0, the second one's to 1, EQ, GOTO;");
        String[] firsts = {"ROWID 0 0", "COLUMN 0 0 0", "COLUMN 0 1 0"};
        String[] seconds = {"ROWID 1 1", "COLUMN 1 0 1", "COLUMN 1 1 1", "COLUMN 1 2 1", "COLUMN 1 3 1"};
        for (int k = -1; k <= 1; k++) {
            for (int l = -1; l <= 3; l++) {
                compiled(TWO + "; output(0, -1); join(" + k + ", " + l + ")", "OPEN 0 0", "OPEN 1 1", "REWIND 0 12", "REWIND 1 11", firsts[k + 1], seconds[l + 1], "EQ 0 8 1",
                    "GOTO 10", "ROWID 0 2", "RESULT 2 1", "NEXT 1 4", "NEXT 0 3", "HALT");
            }
        }
        // Behind the conditions of cursor 1, whenever it was made.
        for (String question : new String[] {"join(1, 3); condition(1, 0, 6, 0)", "condition(1, 0, 6, 0); join(1, 3)"}) {
            compiled(TWO + "; output(0, -1); " + question, "OPEN 0 0", "OPEN 1 1", "REWIND 0 15", "REWIND 1 14", "COLUMN 1 0 0", "ISNULL 0 7", "GOTO 13", "COLUMN 0 1 0",
                "COLUMN 1 3 1", "EQ 0 11 1", "GOTO 13", "ROWID 0 2", "RESULT 2 1", "NEXT 1 4", "NEXT 0 3", "HALT");
        }
    }

    private void outputs() {
        e.of("then the outputs; NEXT 1 to the top).");
        compiled(TWO + "; output(0, 0); output(1, 1); output(0, -1); output(1, -1); join(-1, -1)", "OPEN 0 0", "OPEN 1 1", "REWIND 0 15", "REWIND 1 14", "ROWID 0 0", "ROWID 1 1",
            "EQ 0 8 1", "GOTO 13", "COLUMN 0 0 2", "COLUMN 1 1 3", "ROWID 0 4", "ROWID 1 5", "RESULT 2 4", "NEXT 1 4", "NEXT 0 3", "HALT");
        e.of("The outputs: each one's column to 2, 3, .., then RESULT of 2 and how many.");
        String[] columns = {"output(0, 3)", "output(0, -1)", "output(0, 0)", "output(0, 3)"};
        String[] code = {"COLUMN 0 3 2", "ROWID 0 3", "COLUMN 0 0 4", "COLUMN 0 3 5"};
        for (int n = 1; n <= 4; n++) {
            String[] program = new String[5 + n];
            program[0] = "OPEN 0 1";
            program[1] = "REWIND 0 " + (4 + n);
            System.arraycopy(code, 0, program, 2, n);
            program[2 + n] = "RESULT 2 " + n;
            program[3 + n] = "NEXT 0 2";
            program[4 + n] = "HALT";
            compiled(ONE + "; " + String.join("; ", java.util.Arrays.copyOf(columns, n)), program);
        }
        e.run("table(2)", "set(0, true, 6)", "insert(0, 5)", "ask(0, NONE)", "output(0, 0)", "output(0, -1)", "output(0, 1)", "output(0, 0)", "compile()", "run(99) = 0",
            "results = [6 5 NULL 6]");
    }

    private void theEnd() {
        e.of("NEXT 0 to the top; at the end a HALT.");
        // The shortest program there is, and the longest.
        compiled("table(1); ask(0, NONE); output(0, -1)", "OPEN 0 0", "REWIND 0 5", "ROWID 0 2", "RESULT 2 1", "NEXT 0 2", "HALT");
        compiled(TWO + "; output(0, -1); output(1, 0); output(0, 1); output(1, 3); join(0, -1); condition(0, -1, 5, 6); condition(1, -1, 4, 7); condition(0, 1, 1, 8); condition(1, 3, 0, 9)",
            "OPEN 0 0", "OPEN 1 1", "INTEGER 6 0", "SEEK 0 33 0",
            "ROWID 0 0", "INTEGER 6 1", "GE 0 8 1", "GOTO 32",
            "COLUMN 0 1 0", "INTEGER 8 1", "NE 0 12 1", "GOTO 32",
            "INTEGER 7 0", "SEEK 1 32 0",
            "ROWID 1 0", "INTEGER 7 1", "GT 0 18 1", "GOTO 31",
            "COLUMN 1 3 0", "INTEGER 9 1", "EQ 0 22 1", "GOTO 31",
            "COLUMN 0 0 0", "ROWID 1 1", "EQ 0 26 1", "GOTO 31",
            "ROWID 0 2", "COLUMN 1 0 3", "COLUMN 0 1 4", "COLUMN 1 3 5", "RESULT 2 4", "NEXT 1 14", "NEXT 0 4", "HALT");
        // It needs fuel for this HALT too: OPEN, REWIND and HALT of an empty table.
        e.run("table(1)", "ask(0, NONE)", "output(0, -1)", "compile()", "run(2) = 1", "run(3) = 0", "insert(0, 1)", "run(5) = 1", "results = [1]", "run(6) = 0");
    }

    private void becomesTheProgram() {
        e.of("The question (which stays) becomes the program: how many instructions.");
        String one = "listing = OPEN 0 0, REWIND 0 5, COLUMN 0 0 2, RESULT 2 1, NEXT 0 2, HALT";
        // In place of none, a shorter one, a longer one, and one of 60.
        e.run("table(1)", "ask(0, NONE)", "output(0, 0)", "compile() = 6", one);
        e.run("table(1)", "program NULL 3", "ask(0, NONE)", "output(0, 0)", "listing = NULL 3", "compile() = 6", one);
        e.run("table(1)", "program NULL 1, NULL 2, NULL 3, NULL 4, NULL 5, NULL 6, NULL 7", "ask(0, NONE)", "output(0, 0)", "compile() = 6", one, "code(6, 0) = IOOBE");
        StringBuilder sixty = new StringBuilder("program NULL 1");
        for (int k = 1; k < 60; k++) {
            sixty.append(", NULL 1");
        }
        e.run("table(1)", sixty.toString(), "ask(0, NONE)", "output(0, 0)", "compile() = 6", one, "add(NULL, 1, 0, 0) = 6");
        // It stays, and goes on from where it was.
        e.run("table(1)", "ask(0, NONE)", "output(0, 0)", "compile() = 6", "compile() = 6", one, "wipe()", "compile() = 6", one, "run(9) = 0", "compile() = 6", "output(0, -1) = true",
            "compile() = 7", "condition(0, 0, 6, 0) = true", "compile() = 10", "ask(0, 0)", "compile() = ISE", "output(0, 0)", "compile() = 9");
        e.run("table(1)", "table(1)", "ask(0, 1)", "output(0, 0)", "compile() = 9", "join(0, 0) = true", "compile() = 13", "join(-1, 0) = true", "compile() = 13");
        // The four of each are still the four.
        e.run("table(1)", "ask(0, NONE)", "output(0, 0)", "output(0, 0)", "output(0, 0)", "output(0, 0)", "compile() = 9", "output(0, 0) = false", "compile() = 9");
        // What is compiled later does not change the RESULT rows, nor does what is asked later change the program.
        e.run("table(1)", "insert(0, 4)", "ask(0, NONE)", "output(0, -1)", "compile()", "run(9) = 0", "output(0, 0)", "results = [4]", "code(3, 0) = 18", "compile() = 7",
            "results = [4]", "ask(0, 0)", "code(1, 0) = 2", "run(9) = 0", "results = [4 NULL]");
    }

    /** One table and two, no condition and 4, with a SEEK or without for each cursor, with a JOIN or without, 1 to 4 outputs. */
    private void everyCombination() {
        boolean[] either = {false, true};
        for (int outputs = 1; outputs <= 4; outputs++) {
            compiled(new Combination(1).outputs(outputs));
            for (boolean join : either) {
                compiled(new Combination(2).join(join).outputs(outputs));
            }
            for (boolean first : either) {
                compiled(new Combination(1).conditions(first, false).outputs(outputs));
                for (boolean second : either) {
                    compiled(new Combination(2).conditions(first, second).outputs(outputs));
                    compiled(new Combination(2).conditions(first, second).join(true).outputs(outputs));
                }
            }
        }
    }

    private void compiled(Combination combination) {
        compiled(combination.question(), combination.program());
    }

    private void refuses() {
        e.of("IllegalStateException if there is no question or it has no outputs.");
        e.run("compile() = ISE", "listing = none");
        e.run("table(1)", "compile() = ISE", "ask(1, NONE) = false", "compile() = ISE");
        e.run("table(1)", "program NULL 3, NULL 4", "compile() = ISE", "listing = NULL 3, NULL 4", "ask(0, NONE)", "compile() = ISE", "listing = NULL 3, NULL 4",
            "condition(0, 0, 0, 0)", "compile() = ISE", "listing = NULL 3, NULL 4", "output(0, 1) = false", "compile() = ISE", "output(0, 0) = true", "compile() = 10");
        e.run("table(1)", "ask(0, 0)", "join(0, 0)", "condition(1, 0, 0, 0)", "compile() = ISE", "output(1, 0)", "compile() = 17");
        e.run("table(1)", "ask(0, NONE)", "output(0, 0)", "compile() = 6", "ask(0, NONE)", "compile() = ISE", "code(5, 0) = 0", "code(6, 0) = IOOBE");
    }
}
