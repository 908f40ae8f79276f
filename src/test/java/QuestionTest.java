/** Promises 16 to 20: questions, and the programs that they are compiled to. */
public final class QuestionTest {
    private static final Expect expect = new Expect();

    public static void main(String[] args) {
        ask();
        askBeginsAnew();
        output();
        condition();
        join();
        compileNeedsOutputs();
        compileOneTable();
        compileSeek();
        compileTwoTables();
        compileTwoTablesWithSeeks();
        compileTheLongest();
        theQuestionStays();
        answersOfOneTable();
        answersOfTwoTables();
        expect.end();
    }

    private static TableMachine machine(int... columns) {
        TableMachine x = new TableMachine();
        for (int n : columns) {
            x.table(n);
        }
        return x;
    }

    private static void listing(TableMachine x, String what, int[]... due) {
        expect.is(due.length, x.compile(), what + ": how many instructions");
        for (int k = 0; k < due.length; k++) {
            for (int w = 0; w < 4; w++) {
                expect.is(w < due[k].length ? due[k][w] : 0, x.code(k, w), what + ": code(" + k + ", " + w + ")");
            }
        }
        expect.index(() -> x.code(due.length, 0), what + ": behind the last");
    }

    private static int[] op(int... words) {
        return words;
    }

    private static void ask() {
        TableMachine x = new TableMachine();
        expect.no(x.ask(0, -1), "16: no tables");
        expect.no(x.ask(-1, -1), "16: no table and NONE");
        x.table(1);
        x.table(2);
        int[][] wrong = {{2, -1}, {-1, 0}, {-1, -1}, {0, 2}, {0, -2}, {2, 2}, {0, Integer.MAX_VALUE}, {Integer.MIN_VALUE, 0}};
        for (int[] tu : wrong) {
            expect.no(x.ask(tu[0], tu[1]), "16: ask(" + tu[0] + ", " + tu[1] + ")");
        }
        int[][] right = {{0, -1}, {1, -1}, {0, 1}, {1, 0}, {0, 0}, {1, 1}};
        for (int[] tu : right) {
            expect.yes(x.ask(tu[0], tu[1]), "16: ask(" + tu[0] + ", " + tu[1] + ")");
            x.output(0, -1);
            x.compile();
            expect.is(tu[0], x.code(0, 2), "16: the first table");
            expect.is(tu[1] == -1 ? 2 : 1, x.code(1, 0), "16: with or without a second one");
            if (tu[1] != -1) {
                expect.is(tu[1], x.code(1, 2), "16: the second table");
            }
        }
    }

    private static void askBeginsAnew() {
        TableMachine x = machine(1, 1);
        x.ask(0, 1);
        x.output(1, 0);
        x.condition(0, 0, 6, 0);
        x.join(0, 0);
        expect.no(x.ask(0, 2), "16: no such table");
        expect.is(16, x.compile(), "16: what answers false leaves the old question");
        expect.yes(x.ask(1, 0), "16: a new question");
        expect.state(() -> x.compile(), "16: it has no outputs");
        expect.is(1, x.code(0, 0), "20: what throws leaves the program");
        x.output(0, -1);
        listing(x, "16: a new question", op(1, 0, 1), op(1, 1, 0), op(2, 0, 8), op(2, 1, 7), op(5, 0, 2), op(18, 2, 1), op(3, 1, 4),
            op(3, 0, 3), op(0));
    }

    private static void output() {
        TableMachine x = machine(1, 4);
        expect.no(x.output(0, -1), "17: no question");
        x.ask(0, -1);
        int[][] wrong = {{0, 1}, {0, -2}, {1, 0}, {1, -1}, {-1, 0}, {2, 0}, {0, Integer.MAX_VALUE}, {Integer.MIN_VALUE, 0}};
        for (int[] ck : wrong) {
            expect.no(x.output(ck[0], ck[1]), "17: output(" + ck[0] + ", " + ck[1] + ") of one table");
        }
        expect.state(() -> x.compile(), "17: none has come");
        x.ask(0, 1);
        expect.no(x.output(1, 4), "17: column 4 of the second table");
        expect.no(x.output(0, 1), "17: column 1 of the first table");
        expect.no(x.output(2, 0), "17: cursor 2 of two tables");
        expect.yes(x.output(1, 3), "17: column 3 of the second table");
        expect.yes(x.output(0, -1), "17: the key of the first table");
        expect.yes(x.output(1, -1), "17: the key of the second table");
        expect.yes(x.output(0, 0), "17: column 0 of the first table");
        expect.no(x.output(0, 0), "17: a fifth one");
        listing(x, "17: outputs", op(1, 0, 0), op(1, 1, 1), op(2, 0, 11), op(2, 1, 10), op(4, 1, 3, 2), op(5, 0, 3), op(5, 1, 4),
            op(4, 0, 0, 5), op(18, 2, 4), op(3, 1, 4), op(3, 0, 3), op(0));
    }

    private static void condition() {
        TableMachine x = machine(1, 3);
        expect.no(x.condition(0, -1, 0, 0), "18: no question");
        x.ask(0, -1);
        x.output(0, 0);
        int[][] wrong = {{0, 1, 0}, {0, -2, 0}, {1, 0, 0}, {-1, 0, 0}, {2, 0, 0}, {0, 0, 8}, {0, 0, -1}, {0, 0, Integer.MAX_VALUE}};
        for (int[] ckc : wrong) {
            expect.no(x.condition(ckc[0], ckc[1], ckc[2], 0), "18: condition(" + ckc[0] + ", " + ckc[1] + ", " + ckc[2] + ", 0)");
        }
        expect.is(6, x.compile(), "18: none has come");
        x.ask(0, 1);
        x.output(0, 0);
        expect.no(x.condition(2, 0, 0, 0), "18: cursor 2 of two tables");
        expect.no(x.condition(1, 3, 0, 0), "18: column 3 of the second table");
        expect.yes(x.condition(1, 2, 1, Integer.MIN_VALUE), "18: column 2 of the second table");
        expect.yes(x.condition(0, -1, 2, Integer.MAX_VALUE), "18: the key of the first table");
        expect.yes(x.condition(1, -1, 7, 1), "18: the key of the second table");
        expect.yes(x.condition(0, 0, 3, 4), "18: column 0 of the first table");
        expect.no(x.condition(0, 0, 3, 4), "18: a fifth one");
        expect.no(x.condition(0, -1, 0, 4), "18: a fifth one by key");
        listing(x, "18: conditions", op(1, 0, 0), op(1, 1, 1), op(2, 0, 23),
            op(5, 0, 0), op(6, Integer.MAX_VALUE, 1), op(11, 0, 7, 1), op(19, 22), op(4, 0, 0, 0), op(6, 4, 1), op(12, 0, 11, 1), op(19, 22),
            op(2, 1, 22), op(4, 1, 2, 0), op(6, Integer.MIN_VALUE, 1), op(10, 0, 16, 1), op(19, 21), op(5, 1, 0), op(16, 0, 19), op(19, 21),
            op(4, 0, 0, 2), op(18, 2, 1), op(3, 1, 12), op(3, 0, 3), op(0));
    }

    private static void join() {
        TableMachine x = machine(1, 3);
        expect.no(x.join(-1, -1), "19: no question");
        x.ask(0, -1);
        expect.no(x.join(0, 0), "19: one table");
        expect.no(x.join(-1, -1), "19: one table by key");
        x.ask(0, 1);
        x.output(0, -1);
        expect.no(x.join(1, 0), "19: no such column of the first one");
        expect.no(x.join(0, 3), "19: no such column of the second one");
        expect.no(x.join(-2, 0), "19: column -2");
        expect.no(x.join(0, -2), "19: column -2 of the second one");
        expect.is(9, x.compile(), "19: none has come");
        expect.yes(x.join(0, 2), "19: columns 0 and 2");
        joined(x, op(4, 0, 0, 0), op(4, 1, 2, 1));
        expect.yes(x.join(-1, 1), "19: in place of it, by the first key");
        joined(x, op(5, 0, 0), op(4, 1, 1, 1));
        expect.no(x.join(1, 1), "19: no such column then");
        joined(x, op(5, 0, 0), op(4, 1, 1, 1));
        expect.yes(x.join(-1, -1), "19: both keys");
        joined(x, op(5, 0, 0), op(5, 1, 1));
    }

    private static void joined(TableMachine x, int[] first, int[] second) {
        listing(x, "19: JOIN", op(1, 0, 0), op(1, 1, 1), op(2, 0, 12), op(2, 1, 11), first, second, op(9, 0, 8, 1), op(19, 10),
            op(5, 0, 2), op(18, 2, 1), op(3, 1, 4), op(3, 0, 3), op(0));
    }

    private static void compileNeedsOutputs() {
        TableMachine x = machine(1);
        x.add(7, 5, 0, 0);
        expect.state(() -> x.compile(), "20: no question");
        x.ask(0, -1);
        x.condition(0, 0, 0, 1);
        expect.state(() -> x.compile(), "20: no outputs");
        expect.is(5, x.code(0, 1), "20: the program is the old one");
        expect.index(() -> x.code(1, 0), "20: and nothing more");
    }

    private static void compileOneTable() {
        TableMachine x = machine(2, 1, 3);
        for (int i = 0; i < 60; i++) {
            x.add(7, 5, 0, 0);
        }
        x.ask(2, -1);
        x.output(0, 2);
        listing(x, "20: one table, in place of 60 instructions", op(1, 0, 2), op(2, 0, 5), op(4, 0, 2, 2), op(18, 2, 1), op(3, 0, 2), op(0));
        for (int c = 0; c < 8; c++) {
            x.ask(0, -1);
            x.output(0, -1);
            x.condition(0, 1, c, -9);
            if (c < 6) {
                listing(x, "20: comparison " + c, op(1, 0, 0), op(2, 0, 9), op(4, 0, 1, 0), op(6, -9, 1), op(9 + c, 0, 6, 1), op(19, 8),
                    op(5, 0, 2), op(18, 2, 1), op(3, 0, 2), op(0));
            } else {
                listing(x, "20: comparison " + c, op(1, 0, 0), op(2, 0, 8), op(4, 0, 1, 0), op(9 + c, 0, 5), op(19, 7), op(5, 0, 2), op(18, 2, 1),
                    op(3, 0, 2), op(0));
            }
        }
    }

    private static void compileSeek() {
        TableMachine x = machine(1);
        for (int c = 0; c < 6; c++) {
            x.ask(0, -1);
            x.output(0, 0);
            x.condition(0, -1, c, 40);
            if (c == 0 || c == 4 || c == 5) {
                listing(x, "20: key by " + c, op(1, 0, 0), op(6, 40, 0), op(8, 0, 10, 0), op(5, 0, 0), op(6, 40, 1), op(9 + c, 0, 7, 1), op(19, 9),
                    op(4, 0, 0, 2), op(18, 2, 1), op(3, 0, 3), op(0));
            } else {
                listing(x, "20: key by " + c, op(1, 0, 0), op(2, 0, 9), op(5, 0, 0), op(6, 40, 1), op(9 + c, 0, 6, 1), op(19, 8),
                    op(4, 0, 0, 2), op(18, 2, 1), op(3, 0, 2), op(0));
            }
        }
        for (int c = 6; c < 8; c++) {
            x.ask(0, -1);
            x.output(0, 0);
            x.condition(0, -1, c, 40);
            expect.is(9, x.compile(), "20: key by " + c);
            expect.is(2, x.code(1, 0), "20: key by " + c + " is no SEEK");
        }
        x.ask(0, -1);
        x.output(0, 0);
        x.condition(0, 0, 0, 1);
        x.condition(0, -1, 2, 2);
        x.condition(0, -1, 5, 3);
        x.condition(0, -1, 0, 4);
        expect.is(23, x.compile(), "20: the first such condition");
        expect.is(6, x.code(1, 0), "20: the first such condition, INTEGER");
        expect.is(3, x.code(1, 1), "20: the first such condition, its number");
        expect.is(8, x.code(2, 0), "20: the first such condition, SEEK");
    }

    private static void compileTwoTables() {
        TableMachine x = machine(1, 2);
        x.ask(1, 1);
        x.output(1, 1);
        x.condition(1, 0, 6, 3);
        x.join(1, 0);
        x.condition(0, 0, 0, 3);
        listing(x, "20: two tables", op(1, 0, 1), op(1, 1, 1), op(2, 0, 19), op(4, 0, 0, 0), op(6, 3, 1), op(9, 0, 7, 1), op(19, 18),
            op(2, 1, 18), op(4, 1, 0, 0), op(15, 0, 11), op(19, 17), op(4, 0, 1, 0), op(4, 1, 0, 1), op(9, 0, 15, 1), op(19, 17),
            op(4, 1, 1, 2), op(18, 2, 1), op(3, 1, 8), op(3, 0, 3), op(0));
    }

    private static void compileTwoTablesWithSeeks() {
        TableMachine x = machine(1, 2);
        x.ask(0, 1);
        x.output(0, 0);
        x.condition(1, -1, 4, 7);
        x.condition(0, -1, 0, 8);
        listing(x, "20: a SEEK each", op(1, 0, 0), op(1, 1, 1), op(6, 8, 0), op(8, 0, 18, 0), op(5, 0, 0), op(6, 8, 1), op(9, 0, 8, 1), op(19, 17),
            op(6, 7, 0), op(8, 1, 17, 0), op(5, 1, 0), op(6, 7, 1), op(13, 0, 14, 1), op(19, 16), op(4, 0, 0, 2), op(18, 2, 1), op(3, 1, 10),
            op(3, 0, 4), op(0));
    }

    private static void compileTheLongest() {
        TableMachine x = machine(4, 4);
        x.ask(0, 1);
        for (int i = 0; i < 4; i++) {
            x.output(i % 2, i);
            x.condition(i % 2, -1, 5, i);
        }
        x.join(3, 3);
        expect.is(34, x.compile(), "20: the longest program");
        expect.is(0, x.code(33, 0), "20: its HALT");
        expect.is(33, x.code(3, 2), "20: its first SEEK goes there");
        expect.is(32, x.code(13, 2), "20: its second SEEK goes to NEXT 0");
    }

    private static void theQuestionStays() {
        TableMachine x = machine(1);
        x.ask(0, -1);
        x.output(0, -1);
        expect.is(6, x.compile(), "20: once");
        x.wipe();
        expect.is(6, x.compile(), "20: again");
        expect.yes(x.condition(0, -1, 3, 5), "20: it goes on");
        expect.is(10, x.compile(), "20: with a condition");
        x.run(100);
        x.insert(0, 1);
        expect.is(10, x.compile(), "20: after a run");
        expect.is(0, x.run(100), "20: a run of it");
        expect.is(1, x.result(-1, 0), "20: which finds the row");
        expect.is(10, x.add(19, 0, 0, 0), "10: one more behind a compiled program");
    }

    private static void answersOfOneTable() {
        TableMachine x = machine(2);
        for (int i = -2; i <= 2; i++) {
            x.set(0, i != 0, i * i);
            x.set(1, true, i);
            x.insert(0, i * 10);
        }
        long[][] keys = {
            {-10, 10}, {-20, 20}, {}, {-10, 10}, {-20, 20}, {-20, -10, 10, 20}, {0}, {-20, -10, 10, 20}
        };
        for (int c = 0; c < 8; c++) {
            x.ask(0, -1);
            x.output(0, -1);
            x.output(0, 0);
            x.condition(0, 0, c, 1);
            x.compile();
            keys(x, "20: column by " + c, keys[c]);
        }
        long[][] byKey = {
            {10}, {-20, -10, 0, 20}, {-20, -10, 0}, {-20, -10, 0, 10}, {20}, {10, 20}, {}, {-20, -10, 0, 10, 20}
        };
        for (int c = 0; c < 8; c++) {
            x.ask(0, -1);
            x.output(0, -1);
            x.condition(0, -1, c, 10);
            x.compile();
            keys(x, "20: key by " + c, byKey[c]);
        }
    }

    private static void keys(TableMachine x, String what, long... due) {
        expect.is(0, x.run(4000), what + ": the outcome");
        expect.is(due.length, x.result(-1, 0), what + ": how many rows");
        for (int i = 0; i < due.length && i < x.result(-1, 0); i++) {
            expect.is(due[i], x.result(i, 0), what + ": key " + i);
        }
    }

    private static void answersOfTwoTables() {
        TableMachine x = machine(1, 1);
        long[] pointsTo = {2, 1, 9, 2};
        for (int i = 0; i < 4; i++) {
            x.set(0, i != 2, pointsTo[i]);
            x.insert(0, i);
        }
        for (int i = 1; i <= 3; i++) {
            x.set(0, i != 3, i * 100);
            x.insert(1, i);
        }
        x.ask(0, 1);
        x.output(0, -1);
        x.output(1, 0);
        x.join(0, -1);
        x.compile();
        keys(x, "20: JOIN by a key", 0, 1, 3);
        expect.is(200, x.result(0, 1), "20: what 0 points to");
        expect.is(100, x.result(1, 1), "20: what 1 points to");
        x.join(0, 0);
        x.compile();
        keys(x, "20: NULL and NULL are not the same");
        x.ask(0, 1);
        x.output(0, -1);
        x.output(1, -1);
        x.compile();
        keys(x, "20: each with each", 0, 0, 0, 1, 1, 1, 2, 2, 2, 3, 3, 3);
        x.delete(1, 1);
        x.delete(1, 2);
        x.delete(1, 3);
        keys(x, "20: with none");
    }
}
