/** Promises 10 to 12, sentence by sentence. */
final class ProgramEdges {
    // What p, q and s of the 22 instructions are; R is the register at which a row to insert begins.
    private static final String[] SHAPES = {
        "", "ct", "cj", "cj", "ckr", "cr", "vr", "r", "cjr", "rjr", "rjr", "rjr", "rjr", "rjr", "rjr",
        "rj", "rj", "rrr", "rn", "j", "cjR", "c"
    };

    private final Edges e;

    ProgramEdges(Edges e) {
        this.e = e;
    }

    void all() {
        add();
        wipe();
        code();
    }

    private void add() {
        e.section("Promise 10");
        e.of("One more instruction: its number.");
        e.run("add(NULL, 1, 0, 0) = 0", "add(NULL, 2, 0, 0) = 1", "add(HALT, 0, 0, 0) = 2", "listing = NULL 1, NULL 2, HALT");
        e.run("table(1)", "ask(0, NONE)", "output(0, 0)", "compile() = 6", "add(NULL, 1, 0, 0) = 6", "code(6, 0) = 7");
        e.of("IllegalArgumentException if op is not 0 .. 21,");
        for (String op : "-1 22 23 MIN MAX".split(" ")) {
            e.run("add(" + op + ", 0, 0, 0) = IAE", "listing = none", "add(HALT, 0, 0, 0) = 0");
        }
        for (int op = 0; op <= 21; op++) {
            e.run("add(" + op + ", " + (op == 18 ? "0, 1, 0" : "0, 0, 0") + ") = 0", "code(0, 0) = " + op);
        }
        e.of("or a cursor,");
        range('c', 0, 2);
        e.of("table (0 .. 2),");
        range('t', 0, 2);
        e.of("register (for RESULT all of them;");
        range('r', 0, 15);
        for (int r = 11; r <= 16; r++) {
            for (int n = 1; n <= 4; n++) {
                boolean there = r + n - 1 <= 15;
                e.run("add(RESULT, " + r + ", " + n + ", 0) = " + (there ? "0" : "IAE"), "listing = " + (there ? "RESULT " + r + " " + n : "none"));
            }
        }
        e.run("add(RESULT, MAX, 4, 0) = IAE", "add(RESULT, MAX, 1, 0) = IAE", "add(RESULT, MIN, 4, 0) = IAE", "add(RESULT, -1, 2, 0) = IAE",
            "add(RESULT, 0, MAX, 0) = IAE");
        e.of("for INSERT r up to 11),");
        range('R', 0, 11);
        e.run("add(INSERT, 0, 0, 11) = 0", "add(INSERT, 0, 0, 12) = IAE", "add(INSERT, 0, 0, 15) = IAE", "add(INSERT, 0, 0, 16) = IAE");
        e.of("column (0 .. 3),");
        range('k', 0, 3);
        e.of("n of RESULT");
        range('n', 1, 4);
        e.of("or j (0 .. 60) is not as said;");
        range('j', 0, 60);
        sixty();
        notHad();
        lookedAtByRun();
    }

    /** Every operand of this kind, of every instruction that has one: at both ends of its range and just beyond them. */
    private void range(char kind, int least, int most) {
        for (int op = 0; op < SHAPES.length; op++) {
            for (int i = 0; i < SHAPES[op].length(); i++) {
                if (SHAPES[op].charAt(i) != kind) {
                    continue;
                }
                for (int inside : new int[] {least, least + 1, most - 1, most}) {
                    if (op != 18 || kind != 'r' || inside == least) {
                        e.run(add(op, i, "" + inside) + " = 0", "code(0, 0) = " + op, "code(0, " + (i + 1) + ") = " + inside);
                    }
                }
                for (String beyond : new String[] {"" + (least - 1), "" + (most + 1), "MIN", "MAX"}) {
                    e.run("add(NULL, 3, 0, 0)", add(op, i, beyond) + " = IAE", "listing = NULL 3", "add(NULL, 4, 0, 0) = 1");
                }
            }
        }
    }

    /** An instruction whose operands are the least ones, but for one of them. */
    private static String add(int op, int operand, String given) {
        StringBuilder text = new StringBuilder("add(" + op);
        for (int i = 0; i < 3; i++) {
            boolean isWidth = i < SHAPES[op].length() && SHAPES[op].charAt(i) == 'n';
            text.append(", ").append(i == operand ? given : isWidth ? "1" : "0");
        }
        return text.append(")").toString();
    }

    private void sixty() {
        e.of("IllegalStateException if there are 60.");
        StringBuilder fifty9 = new StringBuilder();
        for (int k = 0; k < 59; k++) {
            fifty9.append(k == 0 ? "" : "; ").append("add(INTEGER, ").append(k).append(", 5, 0) = ").append(k);
        }
        e.run(fifty9.toString(), "add(NULL, 1, 0, 0) = 59", "add(NULL, 1, 0, 0) = ISE", "add(HALT, 0, 0, 0) = ISE", "code(59, 0) = 7", "code(60, 0) = IOOBE",
            "code(0, 1) = 0", "code(58, 1) = 58");
        // Named first: what is not as said is so with 60 instructions too.
        e.run(fifty9.toString(), "add(NULL, 16, 0, 0) = IAE", "add(NULL, 1, 0, 0) = 59", "add(NULL, 16, 0, 0) = IAE", "add(22, 0, 0, 0) = IAE",
            "add(RESULT, 13, 4, 0) = IAE", "add(GOTO, 61, 0, 0) = IAE", "add(GOTO, 60, 0, 0) = ISE");
        e.run(fifty9.toString(), "add(NULL, 1, 0, 0) = 59", "wipe()", "add(NULL, 1, 0, 0) = 0", "code(1, 0) = IOOBE");
        e.run("table(1)", "ask(0, NONE)", "output(0, 0)", fifty9.toString(), "add(NULL, 1, 0, 0) = 59", "add(NULL, 1, 0, 0) = ISE", "compile() = 6",
            "add(NULL, 1, 0, 0) = 6");
    }

    private void notHad() {
        e.of("(What an instruction does not have is not asked; it is told as 0.");
        for (int op = 0; op < SHAPES.length; op++) {
            for (int i = SHAPES[op].length(); i < 3; i++) {
                for (String given : "-1 0 1 16 61 MIN MAX".split(" ")) {
                    e.run(add(op, i, given) + " = 0", "code(0, " + (i + 1) + ") = 0");
                }
            }
        }
        e.run("add(HALT, -1, -2, -3) = 0", "listing = HALT", "add(NULL, 3, 99, 99) = 1", "add(GOTO, 2, MIN, MAX) = 2", "add(INTEGER, 7, 1, 99) = 3",
            "listing = HALT, NULL 3, GOTO 2, INTEGER 7 1");
        for (String v : "MIN MAX -1 0 1 61".split(" ")) {
            e.run("add(INTEGER, " + v + ", 15, 0) = 0");
        }
        e.run("add(INTEGER, MIN, 15, 0) = 0", "code(0, 1) = -2147483648", "add(INTEGER, MAX, 15, 0) = 1", "code(1, 1) = 2147483647");
    }

    private void lookedAtByRun() {
        e.of("Tables, and where it goes to, are looked at by run().)");
        e.run("add(OPEN, 0, 0, 0) = 0", "add(OPEN, 0, 2, 0) = 1", "run(9) = IAE", "table(1)", "table(1)", "run(9) = IAE", "table(1)", "run(9) = 0");
        e.run("add(GOTO, 60, 0, 0) = 0", "run(9) = IAE");
        e.run("add(GOTO, 2, 0, 0) = 0", "run(9) = IAE", "add(NULL, 0, 0, 0) = 1", "run(9) = 0");
        e.run("table(1)", "add(OPEN, 0, 2, 0) = 0", "add(COLUMN, 0, 3, 0) = 1", "run(9) = IAE");
    }

    private void wipe() {
        e.section("Promise 11");
        e.of("The program has no instructions.");
        e.run("wipe() = done", "listing = none", "run(0) = 0", "add(NULL, 1, 0, 0) = 0");
        e.run("wipe()", "wipe()", "code(0, 0) = IOOBE", "result(-1, 0) = 0", "compile() = ISE", "count(0) = -1");
        e.run("add(NULL, 1, 0, 0)", "wipe() = done", "code(0, 0) = IOOBE", "code(0, 3) = IOOBE", "listing = none");
        e.run("program NULL 1, NULL 2, NULL 3", "wipe()", "code(0, 0) = IOOBE", "code(2, 0) = IOOBE", "add(HALT, 0, 0, 0) = 0", "listing = HALT",
            "wipe()", "wipe()", "listing = none");
        e.run("program INTEGER 5 0, RESULT 0 1", "run(0) = 1", "wipe()", "run(0) = 0", "run(4000) = 0", "results = none");
        // A program that could not run is gone.
        e.run("program OPEN 0 2, GOTO 60", "run(5) = IAE", "wipe()", "run(5) = 0");
        // What else there is stays: the rows, the row that is to come, the RESULT rows and the question.
        e.run("table(2)", "set(0, true, 4)", "insert(0, 1)", "set(1, true, 5)", "ask(0, NONE)", "output(0, 0)", "compile() = 6", "run(99) = 0", "wipe()",
            "results = [4]", "rows(0) = 1:[4 NULL]", "insert(0, 2)", "rows(0) = 1:[4 NULL] 2:[4 5]", "compile() = 6", "output(0, 1) = true", "compile() = 7",
            "run(99) = 0", "results = [4 NULL] [4 5]");
        e.run("table(1)", "ask(0, NONE)", "output(0, 0)", "compile() = 6", "wipe()", "listing = none",
            "compile() = 6", "listing = OPEN 0 0, REWIND 0 5, COLUMN 0 0 2, RESULT 2 1, NEXT 0 2, HALT");
    }

    private void code() {
        e.section("Promise 12");
        e.of("Instruction k: w = 0: its number among the 22, 1: p, 2: q, 3: s.");
        e.run("program ADD 3 4 5, COLUMN 2 1 0, INTEGER -7 9", "code(0, 0) = 17", "code(0, 1) = 3", "code(0, 2) = 4", "code(0, 3) = 5", "code(1, 0) = 4",
            "code(1, 1) = 2", "code(1, 2) = 1", "code(1, 3) = 0", "code(2, 0) = 6", "code(2, 1) = -7", "code(2, 2) = 9", "code(2, 3) = 0");
        for (int op = 0; op < SHAPES.length; op++) {
            e.run(add(op, 3, "") + " = 0", "code(0, 0) = " + op);
        }
        e.of("IndexOutOfBoundsException if there is none such,");
        for (int w = 0; w <= 3; w++) {
            e.run("code(0, " + w + ") = IOOBE", "add(ADD, 0, 0, 0)", "code(0, " + w + ") = " + (w == 0 ? 17 : 0), "code(1, " + w + ") = IOOBE",
                "code(-1, " + w + ") = IOOBE", "code(MIN, " + w + ") = IOOBE", "code(MAX, " + w + ") = IOOBE");
        }
        e.run("program NULL 1, NULL 2, NULL 3", "code(2, 1) = 3", "code(3, 1) = IOOBE", "program NULL 4", "code(0, 1) = 4", "code(1, 1) = IOOBE");
        e.run("table(1)", "program NULL 1, NULL 2, NULL 3, NULL 4, NULL 5, NULL 6, NULL 7, NULL 8", "ask(0, NONE)", "output(0, 0)", "compile() = 6",
            "code(5, 0) = 0", "code(6, 0) = IOOBE", "code(7, 0) = IOOBE");
        e.of("or no such w.");
        for (String w : "-1 4 5 MIN MAX".split(" ")) {
            e.run("add(ADD, 1, 2, 3)", "add(ADD, 4, 5, 6)", "code(0, " + w + ") = IOOBE", "code(1, " + w + ") = IOOBE", "code(2, " + w + ") = IOOBE");
        }
        e.run("add(ADD, 1, 2, 3)", "add(ADD, 4, 5, 6)", "code(0, 3) = 3", "code(1, 0) = 17", "code(1, 3) = 6");
    }
}
