/** Promises 1 to 9, sentence by sentence. */
final class TableEdges {
    private final Edges e;

    TableEdges(Edges e) {
        this.e = e;
    }

    void all() {
        newObject();
        table();
        set();
        insert();
        delete();
        count();
        next();
        value();
        isNull();
    }

    private void newObject() {
        e.section("Promise 1");
        e.of("No tables, no program, an empty question.");
        for (int t : new int[] {Integer.MIN_VALUE, -1, 0, 1, 2, 3, Integer.MAX_VALUE}) {
            e.run("count(" + t + ") = -1");
            e.run("insert(" + t + ", 0) = IAE");
            e.run("delete(" + t + ", 0) = IAE");
            e.run("next(" + t + ", MIN, false) = IAE", "next(" + t + ", MIN, true) = IAE");
            e.run("value(" + t + ", 0, 0) = IAE");
            e.run("isNull(" + t + ", 0, 0) = IAE");
            e.run("ask(" + t + ", NONE) = false");
            e.run("ask(" + t + ", " + t + ") = false");
        }
        for (int w = -1; w <= 4; w++) {
            e.run("code(0, " + w + ") = IOOBE", "code(-1, " + w + ") = IOOBE");
        }
        e.run("run(0) = 0", "run(4000) = 0", "run(-1) = IAE", "run(4001) = IAE");
        e.run("result(-1, 0) = 0", "result(-1, -1) = 0", "result(0, 0) = IOOBE", "result(0, -1) = IOOBE", "result(-2, 0) = IOOBE");
        e.run("wasNull(0, 0) = IOOBE", "wasNull(-1, 0) = IOOBE", "wasNull(0, -1) = IOOBE");
        for (int cursor = -1; cursor <= 2; cursor++) {
            for (int k = -1; k <= 1; k++) {
                e.run("output(" + cursor + ", " + k + ") = false");
                e.run("condition(" + cursor + ", " + k + ", 0, 0) = false");
            }
        }
        e.run("join(-1, -1) = false", "join(0, 0) = false");
        e.run("compile() = ISE");
        e.run("table(1) = 0");
        e.run("set(0, true, 1) = true", "set(0, false, 1) = true");
        e.run("add(HALT, 0, 0, 0) = 0");
        e.run("wipe() = done");
        e.run("table(4)", "insert(0, 1)", "rows(0) = 1:[NULL NULL NULL NULL]");
        twoObjects();
    }

    private void twoObjects() {
        Subject first = new Subject();
        Subject second = new Subject();
        for (String call : "table(1); set(0, true, 1); insert(0, 1); ask(0, NONE); output(0, 0); compile(); run(99)".split("; ")) {
            first.answer(call);
        }
        for (String call : "count(0) = -1; listing = none; results = none; compile() = ISE; table(1) = 0; insert(0, 2) = true; rows(0) = 2:[NULL]".split("; ")) {
            String[] parts = call.split(" = ");
            e.same(parts[1], second.answer(parts[0]), "of a second object: " + call);
        }
        e.same("1:[1]", first.answer("rows(0)"), "of the first object then");
    }

    private void table() {
        e.section("Promise 2");
        e.of("A new table with n columns: its number.");
        e.run("table(3) = 0", "table(1) = 1", "table(4) = 2", "count(0) = 0", "count(1) = 0", "count(2) = 0", "count(3) = -1");
        e.run("table(1) = 0", "count(0) = 0", "count(1) = -1", "table(1) = 1", "count(1) = 0", "count(2) = -1");
        for (int n = 1; n <= 4; n++) {
            e.run("table(" + n + ") = 0", "insert(0, 5)", "value(0, 5, " + (n - 1) + ") = 0", "value(0, 5, " + n + ") = IAE");
            e.run("table(1)", "insert(0, 5)", "table(" + n + ") = 1", "count(0) = 1", "count(1) = 0", "insert(1, 5)", "value(1, 5, " + (n - 1) + ") = 0",
                "value(1, 5, " + n + ") = IAE", "value(0, 5, 1) = IAE");
        }
        e.of("IllegalArgumentException if n is not 1 .. 4;");
        for (String n : "0 5 -1 6 MIN MAX".split(" ")) {
            e.run("table(" + n + ") = IAE", "count(0) = -1", "table(1) = 0");
            // Named first: it holds with 3 tables too.
            e.run("table(1)", "table(1)", "table(1)", "table(" + n + ") = IAE");
        }
        for (int n = 1; n <= 4; n++) {
            e.run("table(" + n + ") = 0");
        }
        e.of("IllegalStateException if there are 3.");
        for (int n = 1; n <= 4; n++) {
            e.run("table(1) = 0", "table(2) = 1", "table(" + n + ") = 2", "table(" + n + ") = ISE", "table(" + n + ") = ISE", "count(2) = 0", "count(3) = -1");
        }
    }

    private void set() {
        e.section("Promise 3");
        e.of("Column k of the row that is to come (it has 4, all NULL at first,");
        e.run("table(4)", "insert(0, 1)", "rows(0) = 1:[NULL NULL NULL NULL]");
        for (int k = 0; k < 4; k++) {
            String[] due = {"NULL", "NULL", "NULL", "NULL"};
            due[k] = "7";
            e.run("table(4)", "set(" + k + ", true, 7)", "insert(0, 1)", "rows(0) = 1:[" + String.join(" ", due) + "]");
        }
        e.of("which stay till they are told anew,");
        e.run("table(4)", "set(0, true, 1)", "set(1, true, 2)", "set(2, true, 3)", "set(3, true, 4)", "set(1, true, 5)", "set(2, false, 6)", "insert(0, 1)",
            "rows(0) = 1:[1 5 NULL 4]");
        e.run("set(0, true, 1)", "table(1)", "program OPEN 0 0, INTEGER 8 0, INTEGER 9 1, INSERT 0 4 0", "run(9) = 0", "wipe()", "insert(0, 1)",
            "rows(0) = 1:[1] 8:[9]");
        e.of("also when the row has come;");
        e.run("table(2)", "set(0, true, 1)", "insert(0, 1)", "insert(0, 2)", "set(1, true, 3)", "insert(0, 3)", "set(0, false, 0)", "insert(0, 4)",
            "rows(0) = 1:[1 NULL] 2:[1 NULL] 3:[1 3] 4:[NULL 3]");
        e.run("table(1)", "set(0, true, 1)", "insert(0, 1)", "insert(0, 1) = false", "delete(0, 1)", "insert(0, 1)", "rows(0) = 1:[1]");
        e.of("a table of fewer columns takes the first ones)");
        String all = "set(0, true, 10); set(1, true, 11); set(2, true, 12); set(3, true, 13)";
        e.run(all, "table(1)", "insert(0, 1)", "rows(0) = 1:[10]");
        e.run(all, "table(2)", "insert(0, 1)", "rows(0) = 1:[10 11]");
        e.run(all, "table(3)", "insert(0, 1)", "rows(0) = 1:[10 11 12]");
        e.run(all, "table(4)", "insert(0, 1)", "rows(0) = 1:[10 11 12 13]");
        e.run(all, "table(1)", "table(4)", "insert(0, 1)", "insert(1, 1)", "rows(1) = 1:[10 11 12 13]");
        e.of("(0 .. 3, whatever the tables are)");
        e.run("set(0, true, 1) = true", "set(3, true, 1) = true", "set(3, false, 1) = true");
        e.run("table(1)", "set(0, true, 1) = true", "set(1, true, 1) = true", "set(2, true, 1) = true", "set(3, true, 1) = true", "set(4, true, 1) = false");
        e.run("table(1)", "set(3, true, 5)", "table(4)", "insert(1, 1)", "rows(1) = 1:[NULL NULL NULL 5]");
        e.run("table(4)", "table(4)", "table(4)", "set(3, true, 1) = true", "set(4, true, 1) = false");
        e.of("becomes v if not is true, NULL if it is false: true;");
        for (String v : "0 1 -1 4294967296".split(" ")) {
            e.run("table(1)", "set(0, true, " + v + ") = true", "insert(0, 1)", "rows(0) = 1:[" + v + "]");
            e.run("table(1)", "set(0, false, " + v + ") = true", "insert(0, 1)", "rows(0) = 1:[NULL]");
            e.run("table(1)", "set(0, true, 9)", "set(0, false, " + v + ") = true", "insert(0, 1)", "rows(0) = 1:[NULL]");
        }
        e.run("table(1)", "set(0, true, MIN) = true", "insert(0, 1)", "set(0, true, MAX) = true", "insert(0, 2)",
            "rows(0) = 1:[-9223372036854775808] 2:[9223372036854775807]");
        e.of("false if there is no such column.");
        for (String k : "-1 4 5 MIN MAX".split(" ")) {
            e.run("set(" + k + ", true, 1) = false", "set(" + k + ", false, 1) = false");
            e.run("table(4)", "set(0, true, 6)", "set(3, true, 7)", "set(" + k + ", true, 1) = false", "set(" + k + ", false, 1) = false", "insert(0, 1)",
                "rows(0) = 1:[6 NULL NULL 7]");
        }
    }

    private void insert() {
        e.section("Promise 4");
        e.of("The row that is to come comes into a table with this key: true;");
        e.run("table(1)", "table(1)", "table(1)", "set(0, true, 3)", "insert(2, 5) = true", "insert(0, 5) = true", "rows(0) = 5:[3]", "rows(1) = none",
            "rows(2) = 5:[3]");
        e.run("table(1)", "insert(0, MIN) = true", "insert(0, MAX) = true", "insert(0, 0) = true",
            "keys(0) = -9223372036854775808 0 9223372036854775807");
        e.of("false if it has that key.");
        e.run("table(1)", "set(0, true, 1)", "insert(0, 5) = true", "set(0, true, 2)", "insert(0, 5) = false", "rows(0) = 5:[1]", "insert(0, 4) = true",
            "insert(0, 6) = true", "insert(0, 4) = false", "insert(0, 6) = false", "keys(0) = 4 5 6");
        e.run("table(1)", "insert(0, MIN)", "insert(0, MIN) = false", "insert(0, MAX)", "insert(0, MAX) = false", "insert(0, MIN+1) = true",
            "insert(0, MAX-1) = true", "count(0) = 4");
        e.run("table(1)", "insert(0, 1)", "insert(0, 4294967297) = true", "insert(0, -1) = true", "count(0) = 3");
        e.run("table(1)", "table(1)", "insert(0, 5)", "insert(1, 5) = true", "insert(1, 5) = false");
        e.run("table(1)", "insert(0, 5)", "delete(0, 5)", "insert(0, 5) = true");
        e.run("table(1)", "fill(0, 1, 89)", "insert(0, 1) = false", "insert(0, 45) = false", "insert(0, 89) = false", "count(0) = 89");
        e.of("IllegalArgumentException if there is no such table;");
        noSuchTable("insert(%, 5)", "IAE", "true");
        e.run("table(1)", "fill(0, 1, 90)", "insert(1, 5) = IAE", "insert(-1, 5) = IAE", "insert(3, 91) = IAE", "insert(0, 91) = ISE");
        e.of("IllegalStateException if there are 90 rows in all, whatever the key.");
        e.run("table(1)", "fill(0, 1, 89)", "insert(0, 90) = true", "insert(0, 91) = ISE", "insert(0, 90) = ISE", "insert(0, 1) = ISE",
            "insert(0, MIN) = ISE", "count(0) = 90");
        e.run("table(1)", "table(2)", "table(3)", "fill(0, 1, 30)", "fill(1, 1, 30)", "fill(2, 1, 29)", "insert(2, 1) = false", "insert(2, 30) = true",
            "insert(0, 31) = ISE", "insert(1, 31) = ISE", "insert(2, 31) = ISE", "insert(0, 1) = ISE", "insert(1, 30) = ISE", "count(0) = 30",
            "count(1) = 30", "count(2) = 30");
        e.run("table(1)", "table(1)", "fill(0, 1, 90)", "insert(1, 1) = ISE", "delete(0, 1)", "insert(1, 1) = true", "insert(1, 2) = ISE", "delete(1, 1)",
            "insert(0, 91) = true", "insert(0, 91) = ISE");
        e.run("table(1)", "fill(0, 1, 90)", "table(1) = 1", "insert(1, 1) = ISE");
        e.run("table(1)", "fill(0, 1, 89)", "program OPEN 0 0, INTEGER 500 0, INSERT 0 3 0", "run(9) = 0", "insert(0, 90) = ISE",
            "program OPEN 0 0, REWIND 0 3, DELETE 0", "run(9) = 0", "insert(0, 90) = true", "insert(0, 91) = ISE");
    }

    /** A call with % in place of the table: for every number that no table has, and then for the last table, which is empty. */
    private void noSuchTable(String call, String due, String inside) {
        StringBuilder tables = new StringBuilder("run(0) = 0");
        for (int made = 0; made <= 3; made++) {
            for (String t : new String[] {"MIN", "-1", "" + made, "" + (made + 1), "3", "MAX"}) {
                e.run(tables.toString(), call.replace("%", t) + " = " + due);
            }
            if (made > 0) {
                e.run(tables.toString(), call.replace("%", "" + (made - 1)) + " = " + inside);
                e.run(tables.toString(), call.replace("%", "0") + " = " + inside);
            }
            tables.append("; table(1)");
        }
    }

    private void delete() {
        e.section("Promise 5");
        e.of("The row goes: true;");
        String four = "table(1); set(0, true, 1); insert(0, 10); set(0, true, 2); insert(0, 20); set(0, true, 3); insert(0, 30); set(0, true, 4); insert(0, 40)";
        e.run(four, "delete(0, 10) = true", "rows(0) = 20:[2] 30:[3] 40:[4]");
        e.run(four, "delete(0, 20) = true", "rows(0) = 10:[1] 30:[3] 40:[4]");
        e.run(four, "delete(0, 40) = true", "rows(0) = 10:[1] 20:[2] 30:[3]");
        e.run(four, "delete(0, 40) = true", "delete(0, 10) = true", "delete(0, 30) = true", "delete(0, 20) = true", "rows(0) = none", "count(0) = 0");
        e.run(four, "table(1)", "insert(1, 10)", "delete(0, 10) = true", "rows(1) = 10:[4]", "delete(1, 10) = true", "count(0) = 3");
        e.run("table(1)", "insert(0, MIN)", "insert(0, MAX)", "delete(0, MIN) = true", "delete(0, MAX) = true", "count(0) = 0");
        e.run("table(1)", "fill(0, 1, 90)", "delete(0, 90) = true", "delete(0, 1) = true", "delete(0, 45) = true", "count(0) = 87", "next(0, 44, true) = 46",
            "next(0, MIN, false) = 2", "next(0, 89, true) = NSEE");
        e.of("false if there is none such.");
        e.run("table(1)", "delete(0, 0) = false", "delete(0, MIN) = false", "delete(0, MAX) = false");
        for (String key : "MIN 0 9 11 19 21 39 41 4294967306 MAX".split(" ")) {
            e.run(four, "delete(0, " + key + ") = false", "rows(0) = 10:[1] 20:[2] 30:[3] 40:[4]");
        }
        e.run(four, "delete(0, 20)", "delete(0, 20) = false", "count(0) = 3");
        e.run(four, "table(1)", "delete(1, 10) = false", "count(0) = 4");
        e.of("IllegalArgumentException if there is no such table.");
        noSuchTable("delete(%, 5)", "IAE", "false");
    }

    private void count() {
        e.section("Promise 6");
        e.of("How many rows a table has;");
        e.run("table(1)", "table(1)", "count(0) = 0", "count(1) = 0", "insert(1, 1)", "count(0) = 0", "count(1) = 1", "insert(1, 1) = false", "count(1) = 1",
            "insert(1, 2)", "count(1) = 2", "delete(1, 3) = false", "count(1) = 2", "delete(1, 1)", "count(1) = 1", "delete(1, 2)", "count(1) = 0");
        e.run("table(1)", "fill(0, 1, 89)", "count(0) = 89", "insert(0, 90)", "count(0) = 90", "insert(0, 91) = ISE", "count(0) = 90");
        e.run("table(1)", "program OPEN 0 0, INTEGER 5 0, INSERT 0 3 0", "run(9) = 0", "count(0) = 1", "program OPEN 0 0, REWIND 0 3, DELETE 0", "run(9) = 0",
            "count(0) = 0");
        e.of("NONE if there is no such table.");
        noSuchTable("count(%)", "-1", "0");
    }

    private void next() {
        e.section("Promise 7");
        e.of("The least key not below this one, or (if above) above it.");
        String some = "table(1); insert(0, 10); insert(0, MIN); insert(0, -10); insert(0, MAX); insert(0, 4294967296)";
        e.run(some, "next(0, MIN, false) = -9223372036854775808", "next(0, MIN, true) = -10", "next(0, MIN+1, false) = -10", "next(0, MIN+1, true) = -10");
        e.run(some, "next(0, -11, false) = -10", "next(0, -11, true) = -10", "next(0, -10, false) = -10", "next(0, -10, true) = 10", "next(0, -9, false) = 10",
            "next(0, -9, true) = 10");
        e.run(some, "next(0, 9, false) = 10", "next(0, 9, true) = 10", "next(0, 10, false) = 10", "next(0, 10, true) = 4294967296",
            "next(0, 11, false) = 4294967296");
        e.run(some, "next(0, MAX-1, false) = 9223372036854775807", "next(0, MAX-1, true) = 9223372036854775807", "next(0, MAX, false) = 9223372036854775807");
        e.run("table(1)", "table(1)", "insert(0, 1)", "insert(1, 2)", "next(0, 0, false) = 1", "next(1, 0, false) = 2", "next(1, 1, true) = 2");
        e.run("table(1)", "insert(0, 1)", "insert(0, 2)", "insert(0, 3)", "delete(0, 2)", "next(0, 1, true) = 3", "next(0, 2, false) = 3");
        // Every key of as many rows as there can be, and the keys between them.
        StringBuilder ninety = new StringBuilder("table(1)");
        for (int key = 2; key <= 180; key += 2) {
            ninety.append("; insert(0, ").append(key).append(")");
        }
        for (int key = 2; key <= 180; key += 2) {
            ninety.append("; next(0, ").append(key).append(", false) = ").append(key);
            ninety.append("; next(0, ").append(key - 1).append(", false) = ").append(key);
            ninety.append("; next(0, ").append(key - 2).append(", true) = ").append(key);
        }
        e.run(ninety.toString());
        e.of("IllegalArgumentException if there is no such table;");
        noSuchTable("next(%, 5, false)", "IAE", "NSEE");
        noSuchTable("next(%, 5, true)", "IAE", "NSEE");
        e.of("NoSuchElementException if there is no such key.");
        e.run("table(1)", "next(0, MIN, false) = NSEE", "next(0, MIN, true) = NSEE", "next(0, MAX, false) = NSEE", "next(0, 0, true) = NSEE");
        e.run("table(1)", "insert(0, 5)", "next(0, 5, false) = 5", "next(0, 5, true) = NSEE", "next(0, 6, false) = NSEE", "next(0, 6, true) = NSEE",
            "next(0, 4, true) = 5", "next(0, MAX, false) = NSEE");
        e.run("table(1)", "insert(0, MAX)", "next(0, MAX, false) = 9223372036854775807", "next(0, MAX, true) = NSEE");
        e.run("table(1)", "insert(0, MIN)", "next(0, MIN, false) = -9223372036854775808", "next(0, MIN, true) = NSEE", "next(0, MIN+1, false) = NSEE");
        e.run("table(1)", "table(1)", "insert(1, 5)", "next(0, 1, false) = NSEE");
        e.run("table(1)", "insert(0, 5)", "delete(0, 5)", "next(0, 5, false) = NSEE");
        e.run("table(1)", "fill(0, 1, 90)", "next(0, 90, false) = 90", "next(0, 90, true) = NSEE", "next(0, 89, true) = 90", "next(0, 0, true) = 1");
    }

    private static final String TWO_TABLES = "table(2); table(4); set(0, true, -1); set(2, true, 0); set(3, true, MAX); insert(0, 7); insert(1, 7)";

    private void value() {
        e.section("Promise 8");
        e.of("The value in a column of a row, 0 for NULL.");
        e.run(TWO_TABLES, "value(0, 7, 0) = -1", "value(0, 7, 1) = 0", "value(1, 7, 0) = -1", "value(1, 7, 1) = 0", "value(1, 7, 2) = 0",
            "value(1, 7, 3) = 9223372036854775807");
        e.run("table(1)", "set(0, true, MIN)", "insert(0, 1)", "value(0, 1, 0) = -9223372036854775808");
        // NULL where a row with a value has been before.
        e.run("table(4)", "set(0, true, 5)", "insert(0, 1)", "delete(0, 1)", "set(0, false, 5)", "insert(0, 2)", "value(0, 2, 0) = 0");
        e.of("IllegalArgumentException, first, if there is no such table or column;");
        noSuchTable("value(%, 5, 0)", "IAE", "NSEE");
        noSuchColumn("value");
        e.of("NoSuchElementException if there is no such row.");
        noSuchRow("value");
    }

    private void isNull() {
        e.section("Promise 9");
        e.of("Whether it is NULL.");
        e.run(TWO_TABLES, "isNull(0, 7, 0) = false", "isNull(0, 7, 1) = true", "isNull(1, 7, 0) = false", "isNull(1, 7, 1) = true", "isNull(1, 7, 2) = false",
            "isNull(1, 7, 3) = false");
        e.run("table(4)", "set(0, true, 5)", "insert(0, 1)", "delete(0, 1)", "set(0, false, 5)", "insert(0, 2)", "isNull(0, 2, 0) = true");
        e.of("Throws as value.");
        noSuchTable("isNull(%, 5, 0)", "IAE", "NSEE");
        noSuchColumn("isNull");
        noSuchRow("isNull");
    }

    private void noSuchColumn(String name) {
        for (int n = 1; n <= 4; n++) {
            for (String k : new String[] {"MIN", "-1", "" + n, "4", "MAX"}) {
                // The row with key 7 is there, the row with key 8 is not.
                e.run("table(" + n + ")", "insert(0, 7)", name + "(0, 7, " + k + ") = IAE", name + "(0, 8, " + k + ") = IAE");
            }
            String empty = name.equals("value") ? "0" : "true";
            e.run("table(" + n + ")", "insert(0, 7)", name + "(0, 7, " + (n - 1) + ") = " + empty, name + "(0, 8, " + (n - 1) + ") = NSEE");
        }
        // A column of another table is none of this one.
        e.run("table(1)", "table(3)", "insert(0, 7)", "insert(1, 7)", name + "(0, 7, 1) = IAE", name + "(1, 7, 3) = IAE", name + "(2, 7, 0) = IAE",
            name + "(2, 7, 9) = IAE");
    }

    private void noSuchRow(String name) {
        String there = name.equals("value") ? "0" : "true";
        e.run("table(1)", name + "(0, 0, 0) = NSEE", name + "(0, MIN, 0) = NSEE", name + "(0, MAX, 0) = NSEE");
        e.run("table(1)", "insert(0, 5)", name + "(0, 4, 0) = NSEE", name + "(0, 5, 0) = " + there, name + "(0, 6, 0) = NSEE", name + "(0, 4294967301, 0) = NSEE",
            "delete(0, 5)", name + "(0, 5, 0) = NSEE");
        e.run("table(1)", "table(1)", "insert(1, 5)", name + "(0, 5, 0) = NSEE", name + "(1, 5, 0) = " + there);
        e.run("table(1)", "fill(0, 1, 90)", name + "(0, 0, 0) = NSEE", name + "(0, 1, 0) = " + there, name + "(0, 90, 0) = " + there, name + "(0, 91, 0) = NSEE");
    }
}
