/** What the terms say of each of the 22 instructions, sentence by sentence. */
final class InstructionEdges {
    private static final String LEAST = "-9223372036854775808";
    private static final String MOST = "9223372036854775807";
    private static final String NO_TABLES = "count(0) = -1";
    // A table with three rows, and one with none.
    private static final String THREE = "table(1); table(1); set(0, true, 10); insert(0, 1); set(0, true, 50); insert(0, 5); set(0, true, 90); insert(0, 9)";

    private final Edges e;

    InstructionEdges(Edges e) {
        this.e = e;
    }

    void all() {
        e.section("Terms");
        halt();
        open();
        rewind();
        next();
        column();
        rowid();
        integerAndNull();
        seek();
        comparisons();
        nullTests();
        adding();
        result();
        goingTo();
        inserting();
        insertingNothing();
        deleting();
        shut();
        goingOn();
        behindTheLast();
    }

    private void program(String before, String program, String results) {
        e.run(before, "program " + program, "run(4000) = 0", "results = " + results);
    }

    private void halt() {
        e.of("0 HALT.");
        e.run("program HALT, RESULT 0 1", "run(4000) = 0", "results = none", "run(1) = 0", "run(0) = 1");
        e.run("program RESULT 0 1, HALT, RESULT 0 1", "run(4000) = 0", "results = [NULL]", "run(2) = 0", "run(1) = 1");
    }

    private void open() {
        e.of("1 OPEN c t: c is open on t, without a key.");
        // Without a key it is at no row, NEXT goes nowhere and DELETE takes nothing.
        program(THREE, "OPEN 0 0, ROWID 0 0, COLUMN 0 0 1, NEXT 0 6, DELETE 0, RESULT 0 2, HALT", "[NULL NULL]");
        e.run(THREE, "program OPEN 0 0, DELETE 0", "run(9) = 0", "keys(0) = 1 5 9");
        // Opened once more, on the same table or another one, it has lost its key.
        program(THREE, "OPEN 0 0, REWIND 0 0, OPEN 0 0, ROWID 0 0, NEXT 0 6, RESULT 0 1, HALT", "[NULL]");
        program(THREE + "; insert(1, 1)", "OPEN 0 0, REWIND 0 0, OPEN 0 1, ROWID 0 0, RESULT 0 1", "[NULL]");
        program(THREE + "; insert(1, 7)", "OPEN 0 0, REWIND 0 0, OPEN 0 1, REWIND 0 0, ROWID 0 0, RESULT 0 1", "[7]");
        for (int c = 0; c <= 2; c++) {
            for (int t = 0; t <= 2; t++) {
                program("table(1); table(1); table(1); insert(0, 100); insert(1, 101); insert(2, 102)",
                    "OPEN " + c + " " + t + ", REWIND " + c + " 0, ROWID " + c + " 0, RESULT 0 1", "[10" + t + "]");
            }
        }
        // Three cursors on one table go their own ways.
        program(THREE, "OPEN 0 0, OPEN 1 0, OPEN 2 0, REWIND 0 0, REWIND 1 0, REWIND 2 0, NEXT 1 7, NEXT 2 8, NEXT 2 9, ROWID 0 0, ROWID 1 1, ROWID 2 2, RESULT 0 3",
            "[1 5 9]");
    }

    private void rewind() {
        e.of("2 REWIND c j: its key is that of the first row;");
        program(THREE, "OPEN 0 0, REWIND 0 4, ROWID 0 0, RESULT 0 1", "[1]");
        program("table(1); insert(0, 0); insert(0, MIN); insert(0, MAX)", "OPEN 0 0, REWIND 0 4, ROWID 0 0, RESULT 0 1", "[" + LEAST + "]");
        program("table(1); insert(0, MAX)", "OPEN 0 0, REWIND 0 4, ROWID 0 0, RESULT 0 1", "[" + MOST + "]");
        program("table(1); fill(0, 1, 90)", "OPEN 0 0, REWIND 0 4, ROWID 0 0, RESULT 0 1", "[1]");
        program(THREE, "OPEN 0 0, REWIND 0 0, NEXT 0 3, NEXT 0 4, REWIND 0 0, ROWID 0 0, RESULT 0 1", "[1]");
        program(THREE, "OPEN 0 0, REWIND 0 0, DELETE 0, REWIND 0 0, ROWID 0 0, RESULT 0 1", "[5]");
        program(THREE, "OPEN 0 0, INTEGER 0 0, INSERT 0 0 0, REWIND 0 0, ROWID 0 1, RESULT 1 1", "[0]");
        e.of("if there is none, it is without a key, and the run goes to j.");
        program(THREE, "OPEN 0 1, REWIND 0 3, RESULT 0 1, ROWID 0 1, RESULT 0 2", "[NULL NULL]");
        program(THREE, "OPEN 0 1, REWIND 0 4, HALT, HALT, NEXT 0 2, RESULT 0 1", "[NULL]");
        program(THREE, "OPEN 0 1, REWIND 0 2", "none");
        // The key that it had before is lost, even when the row comes again.
        program("table(1); insert(0, 5)", "OPEN 0 0, REWIND 0 9, DELETE 0, REWIND 0 5, HALT, INTEGER 5 0, INSERT 0 9 0, ROWID 0 1, RESULT 1 1", "[NULL]");
        program("table(1); insert(0, 5); delete(0, 5)", "OPEN 0 0, REWIND 0 3, RESULT 0 1, RESULT 0 2", "[NULL NULL]");
        e.run("table(1)", "program OPEN 0 0, REWIND 0 1", "run(4000) = 1");
    }

    private void next() {
        e.of("3 NEXT c j: if c has a key and there are rows with greater keys, its key is the least of these, and the run goes to j;");
        program(THREE, "OPEN 0 0, REWIND 0 6, NEXT 0 4, HALT, ROWID 0 0, RESULT 0 1", "[5]");
        program(THREE, "OPEN 0 0, REWIND 0 5, ROWID 0 0, RESULT 0 1, NEXT 0 2", "[1] [5] [9]");
        program("table(1); insert(0, MIN); insert(0, -1); insert(0, 4294967295); insert(0, MAX)", "OPEN 0 0, REWIND 0 5, ROWID 0 0, RESULT 0 1, NEXT 0 2",
            "[" + LEAST + "] [-1] [4294967295] [" + MOST + "]");
        program("table(1); fill(0, 1, 90)", "OPEN 0 0, REWIND 0 6, INTEGER 1 1, INTEGER 0 0, ADD 0 1 0, NEXT 0 4, ROWID 0 2, RESULT 0 3", "[90 1 90]");
        // From a row that has gone, to one that has come.
        program(THREE, "OPEN 0 0, REWIND 0 7, DELETE 0, NEXT 0 5, HALT, ROWID 0 0, RESULT 0 1", "[5]");
        program(THREE, "OPEN 0 0, REWIND 0 8, INTEGER 3 0, INSERT 0 8 0, NEXT 0 6, HALT, ROWID 0 1, RESULT 1 1", "[3]");
        program(THREE, "OPEN 0 0, REWIND 0 8, INTEGER 0 0, INSERT 0 8 0, NEXT 0 6, HALT, ROWID 0 1, RESULT 1 1", "[5]");
        program("table(1); insert(0, 1)", "OPEN 0 0, REWIND 0 9, DELETE 0, INTEGER 2 0, INSERT 0 9 0, NEXT 0 7, HALT, ROWID 0 1, RESULT 1 1", "[2]");
        e.of("otherwise it stays as it is.");
        String twice = ", RESULT 0 1, RESULT 0 2";
        program(THREE, "OPEN 0 0, NEXT 0 4, ROWID 0 0" + twice, "[NULL] [NULL NULL]");
        program(THREE, "OPEN 0 1, NEXT 0 4, ROWID 0 0" + twice, "[NULL] [NULL NULL]");
        program("table(1); insert(0, 5)", "OPEN 0 0, REWIND 0 0, NEXT 0 5, ROWID 0 0" + twice, "[5] [5 NULL]");
        program("table(1); insert(0, MAX)", "OPEN 0 0, REWIND 0 0, NEXT 0 5, ROWID 0 0" + twice, "[" + MOST + "] [" + MOST + " NULL]");
        program(THREE, "OPEN 0 0, REWIND 0 0, NEXT 0 3, NEXT 0 4, NEXT 0 7, NEXT 0 7, ROWID 0 0" + twice, "[9] [9 NULL]");
        // With a key above all rows: it keeps this key, as is seen when the row comes again.
        program("table(1); insert(0, 5)", "OPEN 0 0, REWIND 0 8, DELETE 0, NEXT 0 8, INTEGER 5 0, INSERT 0 8 0, ROWID 0 1, RESULT 1 1", "[5]");
        program("table(1); insert(0, 3); insert(0, 5)",
            "OPEN 0 0, REWIND 0 9, NEXT 0 3, DELETE 0, NEXT 0 9, INTEGER 5 0, INSERT 0 9 0, ROWID 0 1, RESULT 1 1", "[5]");
    }

    private void column() {
        e.of("4 COLUMN c k r: r becomes the value in column k of the row it is at;");
        String four = "table(4); set(0, true, MIN); set(1, true, MAX); set(2, true, 0); set(3, true, -1); insert(0, 1); set(0, false, 0); set(3, true, 8); insert(0, 2)";
        program(four, "OPEN 0 0, REWIND 0 0, COLUMN 0 0 0, COLUMN 0 1 1, COLUMN 0 2 2, COLUMN 0 3 3, RESULT 0 4", "[" + LEAST + " " + MOST + " 0 -1]");
        program(four, "OPEN 2 0, REWIND 2 0, NEXT 2 3, COLUMN 2 3 15, COLUMN 2 1 14, RESULT 14 2", "[" + MOST + " 8]");
        program(four, "OPEN 2 0, REWIND 2 0, NEXT 2 3, INTEGER 4 0, COLUMN 2 0 0, RESULT 0 1", "[NULL]");
        program(THREE, "OPEN 0 0, OPEN 1 0, REWIND 0 0, REWIND 1 0, NEXT 1 5, COLUMN 0 0 0, COLUMN 1 0 1, RESULT 0 2", "[10 50]");
        e.of("NULL if it is at none or its table has no column k.");
        program(THREE, "OPEN 0 0, INTEGER 4 0, COLUMN 0 0 0, RESULT 0 1", "[NULL]");
        program(THREE, "OPEN 0 1, INTEGER 4 0, COLUMN 0 0 0, RESULT 0 1", "[NULL]");
        program(THREE, "OPEN 0 0, REWIND 0 0, DELETE 0, INTEGER 4 0, COLUMN 0 0 0, RESULT 0 1", "[NULL]");
        // It has a key for which there is no row; the rows beside it are not the one that it is at.
        program(THREE, "OPEN 0 0, OPEN 1 0, REWIND 0 0, NEXT 0 4, REWIND 1 0, NEXT 1 6, DELETE 1, COLUMN 0 0 0, COLUMN 1 0 1, RESULT 0 2", "[NULL NULL]");
        program(THREE, "OPEN 0 0, INTEGER 99 0, SEEK 0 3 0, COLUMN 0 0 0, RESULT 0 1", "[NULL]");
        for (int n = 1; n <= 4; n++) {
            for (int k = 0; k <= 3; k++) {
                String row = "set(0, true, 20); set(1, true, 21); set(2, true, 22); set(3, true, 23); table(" + n + "); table(4); insert(0, 1); insert(1, 1)";
                program(row, "OPEN 0 0, REWIND 0 0, INTEGER 4 0, COLUMN 0 " + k + " 0, RESULT 0 2", k < n ? "[2" + k + " NULL]" : "[NULL NULL]");
            }
        }
        // No such column, and a row of four columns has been there before.
        program("table(4); table(1); set(3, true, 5); insert(0, 1); delete(0, 1); insert(1, 1)", "OPEN 0 1, REWIND 0 0, COLUMN 0 3 0, RESULT 0 1", "[NULL]");
    }

    private void rowid() {
        e.of("5 ROWID c r: r becomes the key of the row it is at;");
        program(THREE, "OPEN 0 0, REWIND 0 0, ROWID 0 0, NEXT 0 4, ROWID 0 15, RESULT 0 1, RESULT 15 1", "[1] [5]");
        program("table(1); insert(0, MIN); insert(0, MAX)", "OPEN 2 0, REWIND 2 0, ROWID 2 0, NEXT 2 4, ROWID 2 1, RESULT 0 2", "[" + LEAST + " " + MOST + "]");
        program("table(1); insert(0, 0)", "OPEN 0 0, REWIND 0 0, ROWID 0 0, RESULT 0 1", "[0]");
        program("table(1); insert(0, 4294967296)", "OPEN 0 0, REWIND 0 0, ROWID 0 0, RESULT 0 1", "[4294967296]");
        e.of("NULL if it is at none.");
        program(THREE, "OPEN 0 0, INTEGER 4 0, ROWID 0 0, RESULT 0 1", "[NULL]");
        program(THREE, "OPEN 0 1, INTEGER 4 0, ROWID 0 0, RESULT 0 1", "[NULL]");
        program(THREE, "OPEN 0 0, REWIND 0 0, DELETE 0, INTEGER 4 0, ROWID 0 0, RESULT 0 1", "[NULL]");
        program(THREE, "OPEN 0 0, INTEGER 10 0, SEEK 0 3 0, ROWID 0 0, RESULT 0 1", "[NULL]");
        program(THREE, "OPEN 0 0, REWIND 0 0, SEEK 0 3 5, INTEGER 4 0, ROWID 0 0, RESULT 0 1", "[NULL]");
        // At none, though it has a key; then at one again, when a row with this key comes.
        program(THREE, "OPEN 0 0, REWIND 0 0, DELETE 0, ROWID 0 4, INTEGER 1 0, INSERT 0 0 0, ROWID 0 5, RESULT 4 2", "[NULL 1]");
    }

    private void integerAndNull() {
        e.of("6 INTEGER v r: r becomes v.");
        program(NO_TABLES, "INTEGER MIN 0, INTEGER MAX 1, INTEGER 0 2, INTEGER -1 3, RESULT 0 4", "[-2147483648 2147483647 0 -1]");
        program(NO_TABLES, "INTEGER 7 15, INTEGER 8 0, INTEGER 9 15, RESULT 15 1, RESULT 0 2", "[9] [8 NULL]");
        e.of("7 NULL r.");
        program(NO_TABLES, "INTEGER 1 0, INTEGER 2 1, INTEGER 3 15, NULL 0, NULL 15, NULL 14, RESULT 0 2, RESULT 14 2", "[NULL 2] [NULL NULL]");
        program(NO_TABLES, "INTEGER 1 0, NULL 0, INTEGER 0 0, RESULT 0 1", "[0]");
    }

    private void seek() {
        e.of("8 SEEK c j r: its key is the least key of a row that is not below r;");
        String seek = "INTEGER % 3, OPEN 0 0, SEEK 0 6 3, ROWID 0 0, RESULT 0 1, HALT, RESULT 0 2";
        String[][] found = {{"MIN", "1"}, {"0", "1"}, {"1", "1"}, {"2", "5"}, {"4", "5"}, {"5", "5"}, {"6", "9"}, {"8", "9"}, {"9", "9"}};
        program("table(1); fill(0, 1, 90)", seek.replace("%", "90"), "[90]");
        for (String[] one : found) {
            program(THREE, seek.replace("%", one[0]), "[" + one[1] + "]");
        }
        // Backwards from a later row, and by more than an int has.
        program(THREE, "OPEN 0 0, REWIND 0 0, NEXT 0 3, NEXT 0 4, INTEGER 2 3, SEEK 0 8 3, ROWID 0 0, RESULT 0 1", "[5]");
        String wide = "table(1); table(1); insert(0, MIN); insert(0, -1); insert(0, 4294967296); insert(0, MAX); set(0, true, %); insert(1, 1)";
        String byValue = "OPEN 0 0, OPEN 1 1, REWIND 1 0, COLUMN 1 0 3, SEEK 0 8 3, ROWID 0 0, RESULT 0 1, HALT, RESULT 0 2";
        String[][] wideFound = {{"MIN", LEAST}, {"MIN+1", "-1"}, {"-1", "-1"}, {"0", "4294967296"}, {"4294967296", "4294967296"}, {"4294967297", MOST},
            {"MAX", MOST}};
        for (String[] one : wideFound) {
            program(wide.replace("%", one[0]), byValue, "[" + one[1] + "]");
        }
        e.of("if there is none, or r is NULL, it is without a key, and the run goes to j.");
        program(THREE, seek.replace("%", "10"), "[NULL NULL]");
        program(THREE, seek.replace("%", "MAX"), "[NULL NULL]");
        program("table(1); fill(0, 1, 90)", seek.replace("%", "91"), "[NULL NULL]");
        program("table(1)", seek.replace("%", "MIN"), "[NULL NULL]");
        program("table(1); insert(0, MIN)", seek.replace("%", "MIN"), "[NULL NULL]");
        program("table(1); table(1); insert(0, MAX-1); set(0, true, MAX); insert(1, 1)", byValue, "[NULL NULL]");
        program(THREE, "OPEN 0 0, SEEK 0 4 3, RESULT 0 1, HALT, RESULT 0 2", "[NULL NULL]");
        program("table(1); insert(0, 0)", "OPEN 0 0, SEEK 0 4 3, RESULT 0 1, HALT, RESULT 0 2", "[NULL NULL]");
        program("table(1)", "OPEN 0 0, SEEK 0 4 3, RESULT 0 1, HALT, RESULT 0 2", "[NULL NULL]");
        // The key that it had before is lost.
        program(THREE, "OPEN 0 0, REWIND 0 0, INTEGER 10 3, SEEK 0 5 3, HALT, ROWID 0 0, RESULT 0 1, NEXT 0 9, HALT, RESULT 0 2", "[NULL]");
        program(THREE, "OPEN 0 0, REWIND 0 0, SEEK 0 4 3, HALT, ROWID 0 0, RESULT 0 1, NEXT 0 8, HALT, RESULT 0 2", "[NULL]");
        program(THREE, "OPEN 0 0, REWIND 0 0, SEEK 0 3 3, DELETE 0, REWIND 0 6, ROWID 0 0, RESULT 0 1", "[1]");
        program(THREE, "OPEN 0 0, SEEK 0 2 3", "none");
    }

    private void comparisons() {
        e.of("9 EQ, 10 NE, 11 LT, 12 LE, 13 GT, 14 GE a j b: goes to j if neither is NULL and a is so to b.");
        Long[] values = {null, Long.MIN_VALUE, -4294967296L, -1L, 0L, 1L, 4294967296L, Long.MAX_VALUE};
        String[] ops = {"EQ", "NE", "LT", "LE", "GT", "GE"};
        for (Long a : values) {
            for (Long b : values) {
                String row = "table(2); set(0, " + (a != null) + ", " + number(a) + "); set(1, " + (b != null) + ", " + number(b) + "); insert(0, 1)";
                boolean[] goes = new boolean[6];
                if (a != null && b != null) {
                    goes = new boolean[] {a.equals(b), !a.equals(b), a < b, a <= b, a > b, a >= b};
                }
                for (int i = 0; i < 6; i++) {
                    program(row, "OPEN 0 0, REWIND 0 0, COLUMN 0 0 4, COLUMN 0 1 15, " + ops[i] + " 4 7 15, RESULT 0 1, HALT, RESULT 0 2",
                        goes[i] ? "[NULL NULL]" : "[NULL]");
                }
            }
        }
        for (int i = 0; i < 6; i++) {
            boolean goes = i == 0 || i == 3 || i == 5;
            program(NO_TABLES, "INTEGER 3 5, " + ops[i] + " 5 3 5, HALT, RESULT 5 1", goes ? "[3]" : "none");
            program(NO_TABLES, ops[i] + " 5 2 5, HALT, RESULT 5 1", "none");
        }
    }

    private static String number(Long value) {
        return value == null ? "0" : value == Long.MIN_VALUE ? "MIN" : value == Long.MAX_VALUE ? "MAX" : value.toString();
    }

    private void nullTests() {
        e.of("15 ISNULL a j, 16 NOTNULL a j: goes to j if a is so.");
        for (int r : new int[] {0, 15}) {
            String rest = " " + r + " 3, HALT, RESULT 5 1";
            program(NO_TABLES, "NULL " + r + ", ISNULL" + rest, "[NULL]");
            program(NO_TABLES, "NULL " + r + ", NOTNULL" + rest, "none");
            for (String v : "0 1 -1 MIN MAX".split(" ")) {
                program(NO_TABLES, "INTEGER " + v + " " + r + ", ISNULL" + rest, "none");
                program(NO_TABLES, "INTEGER " + v + " " + r + ", NOTNULL" + rest, "[NULL]");
            }
        }
    }

    private void adding() {
        e.of("17 ADD a b r: r becomes the sum (which wraps),");
        String[][] sums = {
            {"MAX", "1", LEAST}, {"MAX-1", "1", MOST}, {"MIN", "-1", MOST}, {"MIN+1", "-1", LEAST}, {"MIN", "MIN", "0"}, {"MAX", "MAX", "-2"},
            {"MAX", "MIN", "-1"}, {"MAX", "0", MOST}, {"2147483647", "1", "2147483648"}, {"-2147483648", "-1", "-2147483649"}, {"4294967295", "1", "4294967296"},
            {"0", "0", "0"}, {"5", "-5", "0"}
        };
        for (String[] sum : sums) {
            String row = "table(2); set(0, true, " + sum[0] + "); set(1, true, " + sum[1] + "); insert(0, 1)";
            program(row, "OPEN 0 0, REWIND 0 0, COLUMN 0 0 4, COLUMN 0 1 5, ADD 4 5 15, ADD 5 4 14, RESULT 14 2", "[" + sum[2] + " " + sum[2] + "]");
        }
        // r may be a, b or both.
        program(NO_TABLES, "INTEGER 3 0, INTEGER 4 1, ADD 0 1 0, ADD 0 1 1, ADD 1 1 1, RESULT 0 2", "[7 22]");
        e.of("NULL if one is NULL.");
        program(NO_TABLES, "INTEGER 3 0, INTEGER 4 2, ADD 0 1 2, RESULT 0 3", "[3 NULL NULL]");
        program(NO_TABLES, "INTEGER 3 0, INTEGER 4 2, ADD 1 0 2, RESULT 0 3", "[3 NULL NULL]");
        program(NO_TABLES, "INTEGER 4 2, ADD 0 1 2, RESULT 0 3", "[NULL NULL NULL]");
        program(NO_TABLES, "INTEGER 4 2, ADD 0 0 2, RESULT 0 3", "[NULL NULL NULL]");
        program(NO_TABLES, "INTEGER 0 0, INTEGER 4 2, ADD 0 0 2, RESULT 0 3", "[0 NULL 0]");
    }

    private void result() {
        e.of("18 RESULT r n: the registers r .. r + n - 1 are one more RESULT row (n 1 .. 4).");
        String filled = "INTEGER 1 0, INTEGER 2 1, INTEGER 4 3, INTEGER 12 12, INTEGER 13 13, INTEGER 15 15, ";
        program(NO_TABLES, filled + "RESULT 0 1, RESULT 0 2, RESULT 0 3, RESULT 0 4", "[1] [1 2] [1 2 NULL] [1 2 NULL 4]");
        program(NO_TABLES, filled + "RESULT 12 4, RESULT 13 3, RESULT 14 2, RESULT 15 1", "[12 13 NULL 15] [13 NULL 15] [NULL 15] [15]");
        // What comes later to the registers does not come to the row.
        program(NO_TABLES, "INTEGER 1 0, RESULT 0 2, INTEGER 2 0, INTEGER 3 1, RESULT 0 2, NULL 0, RESULT 0 1", "[1 NULL] [2 3] [NULL]");
        for (int r = 0; r <= 15; r++) {
            program(NO_TABLES, "INTEGER 6 " + r + ", RESULT " + r + " 1", "[6]");
        }
    }

    private void goingTo() {
        e.of("19 GOTO j.");
        program(NO_TABLES, "GOTO 2, RESULT 0 1, RESULT 0 2", "[NULL NULL]");
        program(NO_TABLES, "GOTO 1, RESULT 0 1, RESULT 0 2", "[NULL] [NULL NULL]");
        program(NO_TABLES, "GOTO 3, RESULT 0 1, HALT, GOTO 1", "[NULL]");
        e.run("program GOTO 0", "run(4000) = 1", "run(0) = 1");
    }

    private void inserting() {
        e.of("20 INSERT c j r: a row with the key in r, and the values in r + 1, r + 2, .., as many as c's table has columns (NULL where these are), comes into that table;");
        for (int n = 1; n <= 4; n++) {
            String values = "1 NULL 3 4".substring(0, new int[] {0, 1, 6, 8, 10}[n]);
            // From the first registers, and from the last ones that there are.
            e.run("table(" + n + ")", "program INTEGER 7 0, INTEGER 1 1, INTEGER 3 3, INTEGER 4 4, OPEN 0 0, INSERT 0 7 0, RESULT 0 1, HALT", "run(99) = 0",
                "results = [7]", "rows(0) = 7:[" + values + "]");
            e.run("table(" + n + ")", "program INTEGER 7 11, INTEGER 1 12, INTEGER 3 14, INTEGER 4 15, OPEN 0 0, INSERT 0 7 11, RESULT 11 1, HALT", "run(99) = 0",
                "results = [7]", "rows(0) = 7:[" + values + "]");
        }
        // Into the cursor's table, by its key's place, and no cursor moves.
        e.run(THREE, "program OPEN 0 1, OPEN 1 0, REWIND 1 0, INTEGER 5 0, INTEGER 6 1, INSERT 0 8 0, ROWID 0 2, ROWID 1 3, RESULT 2 2", "run(99) = 0",
            "results = [NULL 1]", "rows(0) = 1:[10] 5:[50] 9:[90]", "rows(1) = 5:[6]");
        for (String key : "MIN 0 2 6 MAX".split(" ")) {
            e.run(THREE, "program OPEN 0 0, INTEGER " + key + " 0, INSERT 0 4 0, RESULT 1 1", "run(99) = 0", "results = [NULL]", "count(0) = 4");
        }
        e.run("table(1)", "table(1)", "insert(0, MIN)", "insert(0, MAX)",
            "program OPEN 0 0, OPEN 1 1, REWIND 0 6, ROWID 0 0, INSERT 1 6 0, NEXT 0 3", "run(99) = 0", "keys(1) = " + LEAST + " " + MOST);
        // The 90th row, in one table or with those of others.
        e.run("table(1)", "fill(0, 1, 89)", "program OPEN 0 0, INTEGER 100 0, INSERT 0 4 0, RESULT 0 1", "run(99) = 0", "results = [100]", "count(0) = 90");
        e.run("table(1)", "table(1)", "fill(0, 1, 89)", "program OPEN 0 1, INTEGER 1 0, INSERT 0 4 0, RESULT 0 1", "run(99) = 0", "results = [1]", "count(1) = 1");
        e.run("table(1)", "fill(0, 1, 90)", "program OPEN 0 0, REWIND 0 6, DELETE 0, INTEGER 100 0, INSERT 0 6 0, RESULT 0 1", "run(99) = 0", "results = [100]",
            "count(0) = 90");
    }

    private void insertingNothing() {
        e.of("if r is NULL, there is such a key, or there are 90 rows, nothing comes and it goes to j.");
        e.run(THREE, "program OPEN 0 0, INTEGER 8 1, INSERT 0 4 0, HALT, RESULT 0 2", "run(99) = 0", "results = [NULL 8]", "keys(0) = 1 5 9");
        for (String key : "1 5 9".split(" ")) {
            e.run(THREE, "program OPEN 0 0, INTEGER " + key + " 0, INSERT 0 4 0, HALT, RESULT 0 2", "run(99) = 0", "results = [" + key + " NULL]",
                "rows(0) = 1:[10] 5:[50] 9:[90]");
        }
        // A key that another table has is no such key.
        e.run(THREE, "program OPEN 0 1, INTEGER 5 0, INSERT 0 4 0, HALT, RESULT 0 2", "run(99) = 0", "results = none", "keys(1) = 5");
        e.run(THREE, "program OPEN 0 0, INTEGER 6 0, INSERT 0 5 0, INSERT 0 5 0, HALT, RESULT 0 1", "run(99) = 0", "results = [6]", "keys(0) = 1 5 6 9");
        String into = "program OPEN 0 0, INTEGER % 0, INSERT 0 4 0, HALT, RESULT 0 2";
        for (String key : "0 1 45 90 91".split(" ")) {
            e.run("table(1)", "fill(0, 1, 90)", into.replace("%", key), "run(99) = 0", "results = [" + key + " NULL]", "count(0) = 90");
        }
        e.run("table(1)", "fill(0, 1, 90)", "program OPEN 0 0, INSERT 0 3 0, HALT, RESULT 0 2", "run(99) = 0", "results = [NULL NULL]", "count(0) = 90");
        e.run("table(1)", "table(1)", "table(1)", "fill(1, 1, 45)", "fill(2, 1, 45)", into.replace("%", "1"), "run(99) = 0", "results = [1 NULL]", "count(0) = 0");
        e.run("table(1)", "table(1)", "table(1)", "fill(1, 1, 45)", "fill(2, 1, 44)", into.replace("%", "1"), "run(99) = 0", "results = none", "count(0) = 1");
        e.run("table(1)", "program OPEN 0 0, INSERT 0 2 0", "run(99) = 0", "count(0) = 0");
        // Rows come by INSERT till there are 90, and then no more.
        e.run("table(1)", "program OPEN 0 0, INTEGER 1 1, INTEGER 0 0, ADD 0 1 0, INSERT 0 6 0, GOTO 3, RESULT 0 1", "run(4000) = 0", "results = [91]",
            "count(0) = 90", "next(0, 90, false) = 90");
    }

    private void deleting() {
        e.of("21 DELETE c: the row at which c is goes from its table;");
        e.run(THREE, "insert(1, 1)", "program OPEN 0 0, REWIND 0 0, DELETE 0", "run(9) = 0", "rows(0) = 5:[50] 9:[90]", "keys(1) = 1");
        e.run(THREE, "program OPEN 0 0, REWIND 0 0, NEXT 0 3, DELETE 0", "run(9) = 0", "rows(0) = 1:[10] 9:[90]");
        e.run(THREE, "program OPEN 0 0, REWIND 0 0, NEXT 0 3, NEXT 0 4, DELETE 0", "run(9) = 0", "rows(0) = 1:[10] 5:[50]");
        e.run(THREE, "program OPEN 2 0, REWIND 2 4, DELETE 2, NEXT 2 2", "run(99) = 0", "rows(0) = none");
        e.run("table(1)", "insert(0, MIN)", "insert(0, MAX)", "program OPEN 2 0, REWIND 2 4, DELETE 2, NEXT 2 2", "run(99) = 0", "count(0) = 0");
        // Another cursor at this row is then at none; both keep their keys.
        program(THREE, "OPEN 0 0, OPEN 1 0, REWIND 0 0, REWIND 1 0, DELETE 0, ROWID 1 0, NEXT 1 8, HALT, ROWID 1 1, NEXT 0 11, HALT, ROWID 0 2, RESULT 0 3",
            "[NULL 5 5]");
        e.of("nothing if it is at none.");
        e.run(THREE, "program OPEN 0 0, DELETE 0, RESULT 0 1", "run(9) = 0", "results = [NULL]", "keys(0) = 1 5 9");
        e.run(THREE, "program OPEN 0 1, DELETE 0, RESULT 0 1", "run(9) = 0", "results = [NULL]", "keys(0) = 1 5 9", "keys(1) = none");
        e.run(THREE, "program OPEN 0 0, REWIND 0 0, DELETE 0, DELETE 0, RESULT 0 1", "run(9) = 0", "results = [NULL]", "keys(0) = 5 9");
        e.run(THREE, "program OPEN 0 0, REWIND 0 0, SEEK 0 3 9, DELETE 0, RESULT 0 1", "run(9) = 0", "results = [NULL]", "keys(0) = 1 5 9");
        e.run("table(1)", "insert(0, 0)", "program OPEN 0 0, DELETE 0", "run(9) = 0", "keys(0) = 0");
    }

    private void shut() {
        e.of("(2, 3, 4, 5, 8, 20 and 21 with a cursor that is SHUT end the run.)");
        String[] needing = {"REWIND % 9", "NEXT % 9", "COLUMN % 0 1", "ROWID % 1", "SEEK % 9 0", "INSERT % 9 0", "DELETE %"};
        for (int c = 0; c <= 2; c++) {
            int a = c == 0 ? 1 : 0;
            int b = c == 2 ? 1 : 2;
            for (String needs : needing) {
                // The other two cursors are open, at a row, and the register has a value.
                String open = "program OPEN " + a + " 0, OPEN " + b + " 0, REWIND " + a + " 0, REWIND " + b + " 0, INTEGER 4 0, RESULT 0 1, ";
                String at = needs.replace("%", "" + c);
                e.run(THREE, open + at + ", RESULT 0 1, HALT", "run(99) = 3", "results = [4]", "keys(0) = 1 5 9", "keys(1) = none");
                e.run(THREE, open + "OPEN " + c + " 0, " + at + ", HALT", "run(99) = 0", "results = [4]");
                // With nothing but NULLs and empty tables too.
                e.run("table(1)", "program " + at.replace("9", "1"), "run(1) = 3", "results = none");
                e.run("program " + at.replace("9", "1"), "run(1) = 3", "results = none");
            }
        }
        // The others mind no cursor.
        for (String op : ("HALT. OPEN 0 0. INTEGER 1 0. NULL 0. EQ 0 1 0. NE 0 1 0. LT 0 1 0. LE 0 1 0. GT 0 1 0. GE 0 1 0. ISNULL 0 1. NOTNULL 0 1. ADD 0 0 0. "
            + "RESULT 0 1. GOTO 1").split("\\. ")) {
            e.run("table(1)", "program " + op, "run(1) = 0");
        }
    }

    private void goingOn() {
        e.of("Where nothing else is said it goes on with the next instruction.");
        String before = "OPEN 0 0, REWIND 0 0, INTEGER 1 1, INTEGER 2 2, ";
        for (String op : ("OPEN 1 0. REWIND 0 6. NEXT 1 6. COLUMN 0 0 3. ROWID 0 3. INTEGER 5 3. NULL 3. SEEK 0 6 1. EQ 1 6 2. NE 1 6 1. LT 2 6 1. LE 2 6 1. "
            + "GT 1 6 2. GE 1 6 2. ISNULL 1 6. NOTNULL 9 6. ADD 1 2 3. INSERT 0 6 2. DELETE 0").split("\\. ")) {
            String opened = op.startsWith("NEXT") ? before.replace("INTEGER 2 2", "OPEN 1 0") : before;
            program(THREE, opened + op + ", RESULT 9 1, RESULT 9 2", "[NULL] [NULL NULL]");
        }
        program(THREE, before + "RESULT 9 3, RESULT 9 1, RESULT 9 2", "[NULL NULL NULL] [NULL] [NULL NULL]");
    }

    private void behindTheLast() {
        e.of("To go to the number behind the last instruction is to HALT.");
        String[] going = {"REWIND 1 4", "NEXT 0 4", "SEEK 0 4 9", "EQ 1 4 1", "NE 1 4 2", "LT 1 4 2", "LE 1 4 1", "GT 2 4 1", "GE 1 4 1", "ISNULL 9 4", "NOTNULL 1 4", "GOTO 4",
            "INSERT 0 4 1"};
        for (String op : going) {
            String before = "OPEN 0 0, REWIND 0 0, OPEN 1 1, ";
            String numbers = "INTEGER 1 1, INTEGER 2 2, ";
            String program = before + numbers + op.replaceFirst("4", "6");
            // It is the last instruction, so that behind it there is nothing to do, and no fuel left.
            e.run(THREE, "program " + program, "run(6) = 0", "run(5) = 1", "results = none");
            // Not the last one: what stands between is left out.
            e.run(THREE, "program " + before + numbers + op.replaceFirst("4", "8") + ", RESULT 0 1, RESULT 0 1", "run(6) = 0", "results = none");
        }
        for (String op : "NULL 0. INTEGER 1 0. RESULT 0 1. OPEN 0 0. ADD 0 0 0".split("\\. ")) {
            e.run("table(1)", "program " + op, "run(1) = 0", "run(0) = 1");
        }
        e.run("run(0) = 0", "run(1) = 0");
        StringBuilder sixty = new StringBuilder("program GOTO 60");
        for (int k = 1; k < 60; k++) {
            sixty.append(", NULL 0");
        }
        e.run(sixty.toString(), "run(1) = 0", "run(0) = 1");
        e.run(sixty.toString().replace("GOTO 60", "GOTO 59"), "run(2) = 0", "run(1) = 1");
        e.run(sixty.toString().replace("GOTO 60", "NULL 0"), "run(60) = 0", "run(59) = 1");
    }
}
