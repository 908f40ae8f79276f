/** Promises 13 to 15: what each instruction does, how a run ends, and what it leaves. */
public final class RunTest {
    private static final Expect expect = new Expect();

    private static final int HALT = 0, OPEN = 1, REWIND = 2, NEXT = 3, COLUMN = 4, ROWID = 5, INTEGER = 6, NULL = 7,
        SEEK = 8, EQ = 9, NE = 10, LT = 11, LE = 12, GT = 13, GE = 14, ISNULL = 15, NOTNULL = 16, ADD = 17,
        RESULT = 18, GOTO = 19, INSERT = 20, DELETE = 21;

    public static void main(String[] args) {
        fuelHasBounds();
        fuel();
        tablesAndTargetsAreLookedAtFirst();
        aRunBeginsAnew();
        goingBehindTheLast();
        shutCursors();
        resultRowsHaveABound();
        resultRows();
        resultsOfRunsThatEndBadlyStay();
        opening();
        rewind();
        next();
        nextWhileRowsComeAndGo();
        columnAndRowid();
        seek();
        comparisons();
        nullTests();
        adding();
        inserting();
        insertingIntoFullTables();
        deleting();
        rowsStayHoweverARunEnds();
        expect.end();
    }

    private static int[] op(int... words) {
        return words;
    }

    private static TableMachine machine(int[] columns, int[]... instructions) {
        TableMachine x = new TableMachine();
        for (int n : columns) {
            x.table(n);
        }
        program(x, instructions);
        return x;
    }

    private static void program(TableMachine x, int[]... instructions) {
        x.wipe();
        for (int[] w : instructions) {
            x.add(w[0], w.length > 1 ? w[1] : 0, w.length > 2 ? w[2] : 0, w.length > 3 ? w[3] : 0);
        }
    }

    private static int[] tables(int... columns) {
        return columns;
    }

    private static Long[] row(Long... values) {
        return values;
    }

    private static void results(TableMachine x, String what, Long[]... due) {
        expect.is(due.length, x.result(-1, 0), what + ": how many rows");
        for (int i = 0; i < due.length && i < x.result(-1, 0); i++) {
            expect.is(due[i].length, x.result(i, -1), what + ": how many values in row " + i);
            for (int k = 0; k < due[i].length && k < x.result(i, -1); k++) {
                Long v = due[i][k];
                expect.is(v == null ? 0 : v, x.result(i, k), what + ": value " + k + " of row " + i);
                expect.answers(v == null, x.wasNull(i, k), what + ": NULL " + k + " of row " + i);
            }
        }
    }

    private static void fuelHasBounds() {
        TableMachine x = machine(tables(), op(INTEGER, 5, 0), op(RESULT, 0, 1));
        x.run(2);
        for (int fuel : new int[] {-1, 4001, Integer.MIN_VALUE, Integer.MAX_VALUE}) {
            expect.argument(() -> x.run(fuel), "13: run(" + fuel + ")");
        }
        results(x, "14: after a run that threw", row(5L));
        expect.is(0, x.run(4000), "13: run(4000)");
        expect.is(1, x.run(0), "13: run(0)");
        results(x, "14: after run(0)");
    }

    private static void fuel() {
        TableMachine x = machine(tables(), op(INTEGER, 1, 0), op(HALT), op(RESULT, 0, 1));
        expect.is(1, x.run(0), "13: the first instruction needs fuel");
        expect.is(1, x.run(1), "13: a HALT needs fuel");
        expect.is(0, x.run(2), "13: a HALT with fuel");
        TableMachine y = machine(tables(), op(GOTO, 0));
        expect.is(1, y.run(4000), "13: a run that does not end by itself");
        TableMachine z = machine(tables(), op(INTEGER, 0, 0), op(INTEGER, 1, 1), op(ADD, 0, 1, 0), op(RESULT, 0, 1), op(GOTO, 2));
        expect.is(1, z.run(2 + 3 * 7), "13: fuel for seven turns");
        expect.is(7, z.result(-1, 0), "13: seven turns");
        expect.is(1, z.run(2 + 3 * 7 + 2), "13: fuel for seven turns and two");
        expect.is(8, z.result(-1, 0), "13: seven turns and two");
        expect.is(8, z.result(7, 0), "13: the eighth sum");
    }

    private static void tablesAndTargetsAreLookedAtFirst() {
        TableMachine x = machine(tables(), op(HALT), op(OPEN, 0, 0));
        expect.argument(() -> x.run(5), "13: a table that there is not, not come to");
        x.table(1);
        expect.is(0, x.run(5), "13: now there is");
        int[][] goers = {
            op(REWIND, 0, 2), op(NEXT, 0, 2), op(SEEK, 0, 2, 0), op(EQ, 0, 2, 0), op(NE, 0, 2, 0), op(LT, 0, 2, 0),
            op(LE, 0, 2, 0), op(GT, 0, 2, 0), op(GE, 0, 2, 0), op(ISNULL, 0, 2), op(NOTNULL, 0, 2), op(GOTO, 2),
            op(INSERT, 0, 2, 0)
        };
        for (int[] goer : goers) {
            TableMachine y = machine(tables(1), op(HALT), goer);
            expect.is(0, y.run(5), "13: " + goer[0] + " goes to the number behind the last");
            goer[goer[0] == GOTO ? 1 : 2] = 3;
            program(y, op(HALT), goer);
            expect.argument(() -> y.run(5), "13: " + goer[0] + " goes above that");
        }
        TableMachine first = machine(tables(1), op(OPEN, 0, 1), op(HALT));
        expect.argument(() -> first.run(0), "13: a table that there is not, in the first instruction");
        program(first, op(GOTO, 2));
        expect.argument(() -> first.run(0), "13: too far, in the first instruction");
        TableMachine z = machine(tables(1, 1, 1), op(HALT), op(OPEN, 0, 2), op(INTEGER, 60, 9), op(ADD, 9, 9, 9), op(COLUMN, 0, 3, 9));
        expect.is(0, z.run(5), "13: what is no target may be any number");
    }

    private static void aRunBeginsAnew() {
        TableMachine x = machine(tables(1),
            op(RESULT, 0, 1), op(INTEGER, 4, 0), op(OPEN, 0, 0), op(RESULT, 0, 1));
        x.run(9);
        x.run(9);
        results(x, "13: registers are NULL at first", row((Long) null), row(4L));
        program(x, op(REWIND, 0, 0));
        expect.is(3, x.run(9), "13: cursors are SHUT at first");
        results(x, "13: no rows at first");
        TableMachine y = machine(tables(), op(RESULT, 0, 4), op(RESULT, 4, 4), op(RESULT, 8, 4), op(RESULT, 12, 4),
            op(INTEGER, 1, 0), op(INTEGER, 1, 15), op(INTEGER, 1, 7));
        y.run(99);
        y.run(99);
        results(y, "13: all registers", row(null, null, null, null), row(null, null, null, null),
            row(null, null, null, null), row(null, null, null, null));
    }

    private static void goingBehindTheLast() {
        TableMachine x = machine(tables(), op(GOTO, 1));
        expect.is(0, x.run(1), "13: going behind the last needs no fuel");
        program(x, op(NULL, 0));
        expect.is(0, x.run(1), "13: going on behind the last");
        program(x);
        expect.is(0, x.run(0), "13: no instructions");
        TableMachine y = machine(tables());
        for (int i = 0; i < 60; i++) {
            y.add(GOTO, i + 1, 0, 0);
        }
        expect.is(0, y.run(60), "13: to 60 of 60");
        expect.is(1, y.run(59), "13: to 60 of 60 without the fuel");
    }

    private static void shutCursors() {
        int[][] needy = {
            op(REWIND, 1, 0), op(NEXT, 1, 0), op(COLUMN, 1, 0, 0), op(ROWID, 1, 0), op(SEEK, 1, 0, 0),
            op(INSERT, 1, 0, 0), op(DELETE, 1)
        };
        for (int[] needs : needy) {
            TableMachine x = machine(tables(1), op(OPEN, 0, 0), op(OPEN, 2, 0), op(INTEGER, 3, 5), op(RESULT, 5, 1), needs,
                op(RESULT, 5, 1));
            expect.is(3, x.run(100), "13: " + needs[0] + " with a cursor that is SHUT");
            results(x, "13: before " + needs[0], row(3L));
            expect.is(1, x.run(4), "13: without fuel for " + needs[0] + " it is the fuel");
            program(x, op(OPEN, 1, 0), needs);
            int outcome = x.run(100);
            expect.yes(outcome == 0 || outcome == 1, "13: " + needs[0] + " with a cursor that is open");
        }
    }

    private static void resultRowsHaveABound() {
        TableMachine x = machine(tables(), op(INTEGER, 9, 3), op(RESULT, 3, 1), op(GOTO, 1));
        expect.is(2, x.run(4000), "13: a 65th RESULT row");
        expect.is(64, x.result(-1, 0), "14: 64 RESULT rows");
        expect.is(9, x.result(63, 0), "14: the last one");
        expect.index(() -> x.result(64, 0), "14: no 65th");
        expect.index(() -> x.result(64, -1), "14: how many values in no 65th");
        expect.is(2, x.run(1 + 64 * 2 + 1), "13: just fuel enough for the 65th");
        expect.is(1, x.run(1 + 64 * 2), "13: no fuel for the 65th");
        expect.is(64, x.result(-1, 0), "14: 64 RESULT rows without it");
    }

    private static void resultRows() {
        TableMachine x = machine(tables(), op(INTEGER, Integer.MIN_VALUE, 12), op(INTEGER, 0, 14), op(INTEGER, Integer.MAX_VALUE, 15),
            op(RESULT, 12, 4), op(RESULT, 15, 1), op(RESULT, 13, 2), op(INTEGER, 1, 12));
        expect.is(0, x.run(7), "13: RESULT");
        results(x, "14: RESULT", row((long) Integer.MIN_VALUE, null, 0L, (long) Integer.MAX_VALUE),
            row((long) Integer.MAX_VALUE), row(null, 0L));
        for (int k : new int[] {0, -1, -2, 77, Integer.MIN_VALUE}) {
            expect.is(3, x.result(-1, k), "14: result(-1, " + k + ")");
        }
        int[][] wrong = {{3, 0}, {-2, 0}, {3, -1}, {-2, -1}, {0, 4}, {1, 1}, {2, 2}, {0, -2}, {Integer.MAX_VALUE, 0}};
        for (int[] ik : wrong) {
            expect.index(() -> x.result(ik[0], ik[1]), "14: result(" + ik[0] + ", " + ik[1] + ")");
            expect.index(() -> x.wasNull(ik[0], ik[1]), "15: wasNull(" + ik[0] + ", " + ik[1] + ")");
        }
        for (int[] ik : new int[][] {{-1, 0}, {0, -1}, {-1, -1}}) {
            expect.index(() -> x.wasNull(ik[0], ik[1]), "15: wasNull(" + ik[0] + ", " + ik[1] + ")");
        }
        x.wipe();
        x.table(1);
        x.insert(0, 1);
        expect.is(3, x.result(-1, 0), "14: they stay until the next run");
        x.run(0);
        expect.is(0, x.result(-1, 0), "14: the next run has none");
        expect.index(() -> x.wasNull(0, 0), "15: nothing is left of them");
    }

    private static void resultsOfRunsThatEndBadlyStay() {
        TableMachine x = machine(tables(), op(INTEGER, 5, 0), op(RESULT, 0, 1), op(GOTO, 2));
        expect.is(1, x.run(50), "13: no fuel");
        results(x, "14: after a run without fuel", row(5L));
        program(x, op(INTEGER, 6, 0), op(RESULT, 0, 1), op(DELETE, 0));
        expect.is(3, x.run(50), "13: a SHUT cursor");
        results(x, "14: after a run with a SHUT cursor", row(6L));
    }

    private static void opening() {
        TableMachine x = machine(tables(1, 1), op(OPEN, 0, 0), op(REWIND, 0, 9), op(ROWID, 0, 0), op(OPEN, 0, 1), op(ROWID, 0, 1),
            op(NEXT, 0, 9), op(REWIND, 0, 9), op(ROWID, 0, 2), op(RESULT, 0, 3));
        x.insert(0, 5);
        x.insert(1, 6);
        x.insert(1, 5);
        expect.is(0, x.run(99), "13: OPEN twice");
        results(x, "13: OPEN leaves no key", row(5L, null, 5L));
        program(x, op(OPEN, 0, 0), op(OPEN, 1, 1), op(OPEN, 2, 1), op(REWIND, 0, 0), op(REWIND, 1, 0), op(NEXT, 1, 6),
            op(REWIND, 2, 0), op(ROWID, 0, 0), op(ROWID, 1, 1), op(ROWID, 2, 2), op(RESULT, 0, 3));
        x.run(99);
        results(x, "13: three cursors", row(5L, 6L, 5L));
    }

    private static void rewind() {
        TableMachine x = machine(tables(1), op(OPEN, 0, 0), op(REWIND, 0, 4), op(ROWID, 0, 0), op(RESULT, 0, 1), op(RESULT, 1, 1));
        x.run(99);
        results(x, "13: REWIND of an empty table", row((Long) null));
        x.insert(0, 8);
        x.insert(0, Long.MIN_VALUE);
        x.run(99);
        results(x, "13: REWIND", row(Long.MIN_VALUE), row((Long) null));
        program(x, op(OPEN, 0, 0), op(REWIND, 0, 9), op(DELETE, 0), op(NEXT, 0, 4), op(DELETE, 0), op(REWIND, 0, 7), op(HALT),
            op(NEXT, 0, 9), op(RESULT, 0, 2));
        expect.is(0, x.run(99), "13: REWIND when all rows have gone");
        results(x, "13: REWIND then leaves no key", row(null, null));
    }

    private static void next() {
        TableMachine x = machine(tables(1), op(OPEN, 0, 0), op(NEXT, 0, 5), op(REWIND, 0, 5), op(ROWID, 0, 0), op(RESULT, 0, 1),
            op(NEXT, 0, 3), op(ROWID, 0, 1), op(RESULT, 0, 2));
        x.insert(0, 1);
        x.insert(0, -1);
        x.insert(0, Long.MAX_VALUE);
        expect.is(0, x.run(99), "13: NEXT over all rows");
        results(x, "13: NEXT over all rows, and it stays at the last", row(-1L), row(1L), row(Long.MAX_VALUE),
            row(Long.MAX_VALUE, Long.MAX_VALUE));
        program(x, op(OPEN, 0, 0), op(NEXT, 0, 4), op(INTEGER, 7, 0), op(RESULT, 0, 1));
        x.run(99);
        results(x, "13: NEXT without a key goes nowhere", row(7L));
    }

    private static void nextWhileRowsComeAndGo() {
        TableMachine x = machine(tables(1),
            op(OPEN, 0, 0), op(REWIND, 0, 12), op(DELETE, 0), op(ROWID, 0, 0), op(COLUMN, 0, 0, 1), op(RESULT, 0, 2),
            op(INTEGER, 15, 3), op(INTEGER, 99, 4), op(INSERT, 0, 12, 3), op(NEXT, 0, 10), op(ROWID, 0, 0), op(RESULT, 0, 1));
        x.insert(0, 10);
        x.insert(0, 20);
        expect.is(0, x.run(99), "13: NEXT from a row that has gone");
        results(x, "13: NEXT from a row that has gone", row(null, null), row(15L));
        program(x, op(OPEN, 0, 0), op(OPEN, 1, 0), op(REWIND, 0, 0), op(REWIND, 1, 0), op(DELETE, 1), op(ROWID, 0, 0),
            op(INTEGER, 15, 3), op(INTEGER, 7, 4), op(INSERT, 1, 0, 3), op(ROWID, 0, 1), op(COLUMN, 0, 0, 2), op(RESULT, 0, 3));
        x.run(99);
        results(x, "13: at a row that has come again", row(null, 15L, 7L));
    }

    private static void columnAndRowid() {
        TableMachine x = machine(tables(4, 2), op(OPEN, 0, 0), op(OPEN, 1, 1), op(INTEGER, 1, 0), op(INTEGER, 1, 1), op(COLUMN, 0, 0, 0),
            op(ROWID, 0, 1), op(RESULT, 0, 2), op(REWIND, 0, 30), op(REWIND, 1, 30), op(COLUMN, 0, 0, 4), op(COLUMN, 0, 1, 5),
            op(COLUMN, 0, 2, 6), op(COLUMN, 0, 3, 7), op(RESULT, 4, 4), op(INTEGER, 1, 10), op(INTEGER, 1, 11),
            op(COLUMN, 1, 0, 8), op(COLUMN, 1, 1, 9), op(COLUMN, 1, 2, 10), op(COLUMN, 1, 3, 11), op(RESULT, 8, 4), op(ROWID, 0, 8),
            op(ROWID, 1, 9), op(RESULT, 8, 2), op(HALT), op(HALT), op(HALT), op(HALT), op(HALT), op(HALT));
        x.set(0, true, Long.MAX_VALUE);
        x.set(1, true, 2);
        x.set(3, true, 0);
        x.insert(0, Long.MIN_VALUE);
        x.set(2, true, 3);
        x.insert(1, -4);
        expect.is(0, x.run(99), "13: COLUMN and ROWID");
        results(x, "13: COLUMN and ROWID", row(null, null), row(Long.MAX_VALUE, 2L, null, 0L),
            row(Long.MAX_VALUE, 2L, null, null), row(Long.MIN_VALUE, -4L));
    }

    private static void seek() {
        TableMachine x = machine(tables(1));
        for (long key : new long[] {-5, 3, 10}) {
            x.insert(0, key);
        }
        int[] from = {Integer.MIN_VALUE, -5, -4, 3, 4, 10, 11};
        Long[] due = {-5L, -5L, 3L, 3L, 10L, 10L, null};
        for (int i = 0; i < from.length; i++) {
            program(x, op(OPEN, 0, 0), op(REWIND, 0, 0), op(INTEGER, from[i], 15), op(SEEK, 0, 6, 15), op(ROWID, 0, 0),
                op(RESULT, 0, 1), op(NEXT, 0, 8), op(HALT), op(ROWID, 0, 1), op(RESULT, 1, 1));
            expect.is(0, x.run(99), "13: SEEK " + from[i]);
            Long then = from[i] <= -5 ? Long.valueOf(3) : from[i] <= 3 ? Long.valueOf(10) : null;
            if (due[i] == null) {
                results(x, "13: SEEK " + from[i]);
            } else if (then == null) {
                results(x, "13: SEEK " + from[i], row(due[i]));
            } else {
                results(x, "13: SEEK " + from[i], row(due[i]), row(then));
            }
        }
        program(x, op(OPEN, 0, 0), op(REWIND, 0, 0), op(SEEK, 0, 4, 1), op(RESULT, 0, 1), op(ROWID, 0, 0), op(RESULT, 0, 3));
        x.run(99);
        results(x, "13: SEEK by NULL leaves no key", row(null, null, null));
    }

    private static void comparisons() {
        int[][] pairs = {{1, 2}, {2, 2}, {3, 2}, {Integer.MIN_VALUE, Integer.MAX_VALUE}, {Integer.MAX_VALUE, Integer.MIN_VALUE}};
        for (int[] ab : pairs) {
            boolean[] due = {ab[0] == ab[1], ab[0] != ab[1], ab[0] < ab[1], ab[0] <= ab[1], ab[0] > ab[1], ab[0] >= ab[1]};
            for (int c = 0; c < 6; c++) {
                TableMachine x = machine(tables(), op(INTEGER, ab[0], 4), op(INTEGER, ab[1], 5), op(EQ + c, 4, 4, 5), op(HALT), op(RESULT, 4, 2));
                x.run(99);
                expect.is(due[c] ? 1 : 0, x.result(-1, 0), "13: " + ab[0] + " by " + (EQ + c) + " to " + ab[1]);
            }
        }
        for (int c = EQ; c <= GE; c++) {
            TableMachine x = machine(tables(), op(INTEGER, 0, 0), op(c, 0, 4, 1), op(c, 1, 4, 0), op(c, 1, 4, 1), op(RESULT, 0, 1));
            expect.is(1, x.run(4), "13: " + c + " with NULL goes nowhere");
        }
        TableMachine y = machine(tables(1), op(OPEN, 0, 0), op(REWIND, 0, 0), op(ROWID, 0, 0), op(COLUMN, 0, 0, 1), op(LT, 0, 6, 1),
            op(HALT), op(GT, 1, 8, 0), op(HALT), op(RESULT, 0, 2));
        y.set(0, true, Long.MAX_VALUE);
        y.insert(0, Long.MIN_VALUE);
        y.run(99);
        results(y, "13: far apart", row(Long.MIN_VALUE, Long.MAX_VALUE));
        TableMachine z = machine(tables(1), op(OPEN, 0, 0), op(REWIND, 0, 0), op(ROWID, 0, 0), op(COLUMN, 0, 0, 1), op(EQ, 0, 6, 1), op(HALT),
            op(RESULT, 0, 2));
        z.set(0, true, 1L << 32);
        z.insert(0, 0);
        z.run(99);
        results(z, "13: alike but for the upper half");
    }

    private static void nullTests() {
        TableMachine x = machine(tables(), op(INTEGER, 0, 0), op(ISNULL, 0, 6), op(NOTNULL, 1, 6), op(ISNULL, 1, 5), op(RESULT, 0, 1),
            op(NOTNULL, 0, 7), op(RESULT, 0, 1), op(NULL, 0), op(NOTNULL, 0, 6), op(RESULT, 0, 2));
        expect.is(0, x.run(99), "13: ISNULL and NOTNULL");
        results(x, "13: ISNULL, NOTNULL and NULL", row(null, null));
    }

    private static void adding() {
        TableMachine x = machine(tables(1), op(OPEN, 0, 0), op(REWIND, 0, 0), op(ROWID, 0, 0), op(INTEGER, 1, 1), op(ADD, 0, 1, 2),
            op(ADD, 1, 1, 1), op(ADD, 1, 9, 8), op(ADD, 2, 1, 3), op(RESULT, 0, 4), op(INTEGER, 1, 10), op(INTEGER, 1, 11), op(ADD, 9, 1, 10),
            op(ADD, 1, 9, 11), op(RESULT, 8, 4));
        x.insert(0, Long.MAX_VALUE);
        x.run(99);
        results(x, "13: ADD", row(Long.MAX_VALUE, 2L, Long.MIN_VALUE, Long.MIN_VALUE + 2), row(null, null, null, null));
    }

    private static void inserting() {
        TableMachine x = machine(tables(3, 1), op(OPEN, 0, 0), op(OPEN, 1, 1), op(INTEGER, -4, 11), op(INTEGER, 8, 12), op(INTEGER, 9, 14),
            op(INTEGER, 10, 15), op(INSERT, 0, 9, 11), op(INSERT, 1, 9, 11), op(INSERT, 0, 10, 11), op(RESULT, 0, 1), op(INSERT, 0, 12, 2),
            op(RESULT, 1, 1), op(ROWID, 0, 4), op(RESULT, 4, 1));
        x.set(2, true, 55);
        expect.is(0, x.run(99), "13: INSERT");
        results(x, "13: INSERT goes on, to j for a key that there is or NULL, and moves no cursor", row((Long) null));
        expect.is(1, x.count(0), "13: one row in table 0");
        expect.is(1, x.count(1), "13: one row in table 1");
        expect.is(8, x.value(0, -4, 0), "13: the first value");
        expect.yes(x.isNull(0, -4, 1), "13: NULL where the register is");
        expect.is(9, x.value(0, -4, 2), "13: the third value");
        expect.is(8, x.value(1, -4, 0), "13: as many as there are columns");
        x.insert(0, 1);
        expect.yes(x.isNull(0, 1, 0), "3: the row that is to come is not touched by a run");
        expect.is(55, x.value(0, 1, 2), "3: nor its other columns");
        program(x, op(OPEN, 0, 0), op(INTEGER, -4, 0), op(INTEGER, 77, 1), op(INSERT, 0, 4, 0));
        x.run(99);
        expect.is(8, x.value(0, -4, 0), "13: INSERT of a key that there is changes nothing");
    }

    private static void insertingIntoFullTables() {
        TableMachine x = machine(tables(1, 1), op(OPEN, 0, 1), op(INTEGER, 1000, 0), op(INSERT, 0, 4, 0), op(RESULT, 0, 1), op(RESULT, 0, 2));
        for (int i = 0; i < 89; i++) {
            x.insert(0, i);
        }
        x.run(99);
        expect.is(2, x.result(-1, 0), "13: the 90th row comes");
        expect.is(1, x.count(1), "13: into its table");
        x.delete(1, 1000);
        x.insert(0, 89);
        expect.is(0, x.run(99), "13: INSERT when there are 90");
        expect.is(1, x.result(-1, 0), "13: INSERT when there are 90 goes to j");
        expect.is(0, x.count(1), "13: nothing has come");
    }

    private static void deleting() {
        TableMachine x = machine(tables(1, 1), op(OPEN, 0, 0), op(DELETE, 0), op(REWIND, 0, 9), op(NEXT, 0, 4), op(DELETE, 0), op(DELETE, 0),
            op(NEXT, 0, 7), op(ROWID, 0, 0), op(RESULT, 0, 1));
        for (long key = 1; key <= 3; key++) {
            x.insert(0, key);
            x.insert(1, key);
        }
        expect.is(0, x.run(99), "13: DELETE");
        results(x, "13: DELETE keeps the key", row(3L));
        expect.is(2, x.count(0), "13: one has gone");
        expect.is(3, x.next(0, 1, true), "13: the one in the middle");
        expect.is(3, x.count(1), "13: none from the other table");
        program(x, op(OPEN, 0, 0), op(REWIND, 0, 9), op(DELETE, 0), op(NEXT, 0, 2), op(REWIND, 0, 6), op(HALT), op(RESULT, 0, 1),
            op(HALT), op(HALT));
        x.run(99);
        expect.is(0, x.count(0), "13: all have gone");
        expect.is(1, x.result(-1, 0), "13: an empty table to the run too");
    }

    private static void rowsStayHoweverARunEnds() {
        int[] in = op(INSERT, 0, 0, 0);
        TableMachine x = machine(tables(1), op(OPEN, 0, 0), op(INTEGER, 1, 0), in, op(GOTO, 3));
        expect.is(1, x.run(50), "13: it ends without fuel");
        expect.is(1, x.count(0), "13: the row stays after 1");
        program(x, op(OPEN, 0, 0), op(INTEGER, 2, 0), in, op(RESULT, 0, 1), op(GOTO, 3));
        expect.is(2, x.run(4000), "13: it ends with 64 rows");
        expect.is(2, x.count(0), "13: the row stays after 2");
        program(x, op(OPEN, 0, 0), op(REWIND, 0, 0), op(DELETE, 0), op(DELETE, 1));
        expect.is(3, x.run(50), "13: it ends at a SHUT cursor");
        expect.is(1, x.count(0), "13: the row is away after 3");
    }
}
