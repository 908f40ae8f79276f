/** Promises 1 to 9: a new object, tables, and the rows in them. */
public final class TablesTest {
    private static final Expect expect = new Expect();

    public static void main(String[] args) {
        newObject();
        table();
        set();
        insert();
        insertIntoFullTables();
        delete();
        rowsInPlaceOfOthers();
        slotsComeBackClean();
        count();
        next();
        value();
        expect.end();
    }

    private static void newObject() {
        TableMachine x = new TableMachine();
        for (int t = -1; t <= 3; t++) {
            expect.is(TableMachine.NONE, x.count(t), "1: count of table " + t + " of a new object");
        }
        expect.index(() -> x.code(0, 0), "1: code(0, 0) of a new object");
        expect.is(0, x.result(-1, 5), "1: no rows before any run");
        expect.index(() -> x.result(0, 0), "1: result(0, 0) before any run");
        expect.index(() -> x.wasNull(0, 0), "1: wasNull(0, 0) before any run");
        expect.no(x.output(0, -1), "1: output without a question");
        expect.no(x.condition(0, -1, 0, 0), "1: condition without a question");
        expect.no(x.join(-1, -1), "1: join without a question");
        expect.state(() -> x.compile(), "1: compile without a question");
        expect.is(0, x.run(0), "1: a run of no program");
        TableMachine y = new TableMachine();
        y.table(1);
        y.insert(0, 1);
        expect.is(TableMachine.NONE, x.count(0), "1: two objects have nothing in common");
        expect.is(-1, TableMachine.NONE, "NONE");
    }

    private static void table() {
        TableMachine x = new TableMachine();
        int[] wrong = {0, 5, -1, Integer.MIN_VALUE, Integer.MAX_VALUE};
        for (int n : wrong) {
            expect.argument(() -> x.table(n), "2: table(" + n + ")");
        }
        expect.is(0, x.table(1), "2: the first table");
        expect.is(1, x.table(4), "2: the second table");
        expect.is(2, x.table(2), "2: the third table");
        expect.is(0, x.count(2), "2: a new table is empty");
        expect.state(() -> x.table(1), "2: a fourth table");
        expect.argument(() -> x.table(0), "2: a fourth table of no columns");
        expect.is(TableMachine.NONE, x.count(3), "2: what throws makes no table");
    }

    private static void set() {
        TableMachine x = new TableMachine();
        expect.yes(x.set(3, true, 33), "3: set before any table");
        x.table(4);
        expect.no(x.set(4, true, 1), "3: column 4");
        expect.no(x.set(-1, true, 1), "3: column -1");
        expect.no(x.set(Integer.MAX_VALUE, false, 1), "3: the greatest column");
        x.insert(0, 1);
        row(x, 0, 1, null, null, null, 33L);
        expect.yes(x.set(0, true, Long.MIN_VALUE), "3: the least value");
        expect.yes(x.set(1, true, 0), "3: 0 is not NULL");
        expect.yes(x.set(3, false, 9), "3: back to NULL");
        x.insert(0, 2);
        row(x, 0, 2, Long.MIN_VALUE, 0L, null, null);
        x.insert(0, 3);
        row(x, 0, 3, Long.MIN_VALUE, 0L, null, null);
        row(x, 0, 1, null, null, null, 33L);
        x.table(1);
        x.insert(1, 2);
        row(x, 1, 2, Long.MIN_VALUE);
    }

    private static void insert() {
        TableMachine x = new TableMachine();
        expect.argument(() -> x.insert(0, 1), "4: insert without a table");
        x.table(1);
        x.table(1);
        expect.argument(() -> x.insert(2, 1), "4: insert(2, 1)");
        expect.argument(() -> x.insert(-1, 1), "4: insert(-1, 1)");
        x.set(0, true, 7);
        expect.yes(x.insert(0, 5), "4: a first row");
        x.set(0, true, 8);
        expect.no(x.insert(0, 5), "4: the same key");
        row(x, 0, 5, 7L);
        expect.is(1, x.count(0), "4: what answers false brings nothing");
        expect.yes(x.insert(1, 5), "4: the same key in another table");
        row(x, 1, 5, 8L);
        expect.yes(x.insert(0, Long.MIN_VALUE), "4: the least key");
        expect.yes(x.insert(0, Long.MAX_VALUE), "4: the greatest key");
        expect.yes(x.insert(0, -5), "4: a key between");
        keys(x, 0, Long.MIN_VALUE, -5, 5, Long.MAX_VALUE);
        keys(x, 1, 5);
    }

    private static void insertIntoFullTables() {
        TableMachine x = new TableMachine();
        x.table(1);
        x.table(2);
        x.table(3);
        for (int i = 0; i < 90; i++) {
            x.set(0, true, i);
            int key = (i * 37) % 90;
            expect.yes(x.insert(i % 3, key), "4: row " + i);
        }
        expect.state(() -> x.insert(0, 100), "4: a 91st row");
        expect.state(() -> x.insert(0, 0), "4: a 91st row whose key there is");
        expect.argument(() -> x.insert(3, 100), "4: a 91st row in no table");
        for (int i = 0; i < 90; i++) {
            expect.is(i, x.value(i % 3, (i * 37) % 90, 0), "4: value of row " + i);
        }
        expect.is(30, x.count(0), "4: rows of table 0");
        expect.yes(x.delete(1, 37), "4: one goes");
        expect.yes(x.insert(0, 100), "4: one comes into another table");
        expect.state(() -> x.insert(0, 101), "4: full again");
        expect.is(31, x.count(0), "4: rows of table 0 then");
        expect.is(29, x.count(1), "4: rows of table 1 then");

        TableMachine y = new TableMachine();
        y.table(1);
        for (int i = 0; i < 90; i++) {
            expect.yes(y.insert(0, 90 - i), "4: all 90 in one table, row " + i);
        }
        expect.state(() -> y.insert(0, 0), "4: a 91st row in one table");
        expect.is(90, y.count(0), "4: 90 in one table");
        for (int i = 1; i <= 90; i++) {
            expect.is(i, y.next(0, i, false), "4: key " + i + " of 90");
        }
        for (int i = 1; i <= 90; i++) {
            expect.yes(y.delete(0, i), "5: all 90 go from one table, row " + i);
        }
        expect.is(0, y.count(0), "5: none is left of 90");
    }

    private static void rowsInPlaceOfOthers() {
        TableMachine x = new TableMachine();
        x.table(1);
        x.table(1);
        for (int i = 0; i < 90; i++) {
            x.set(0, true, i);
            x.insert(0, i);
        }
        for (int i = 0; i < 90; i += 3) {
            x.delete(0, i);
        }
        for (int i = 0; i < 90; i += 3) {
            x.set(0, true, 1000 + i);
            expect.yes(x.insert(1, i), "5: one comes for each that has gone, row " + i);
        }
        expect.state(() -> x.insert(1, 100), "5: and no more");
        for (int i = 0; i < 90; i++) {
            boolean moved = i % 3 == 0;
            expect.is(moved ? 1000 + i : i, x.value(moved ? 1 : 0, i, 0), "5: the value of row " + i + " then");
        }
    }

    private static void delete() {
        TableMachine x = new TableMachine();
        expect.argument(() -> x.delete(0, 1), "5: delete without a table");
        x.table(1);
        x.table(1);
        long[] made = {4, 1, 3, 5, 2};
        for (long key : made) {
            x.set(0, true, key * 10);
            x.insert(0, key);
            x.insert(1, key);
        }
        expect.no(x.delete(0, 6), "5: no such row");
        expect.no(x.delete(0, 0), "5: no such row below");
        expect.argument(() -> x.delete(2, 1), "5: delete(2, 1)");
        expect.argument(() -> x.delete(-1, 1), "5: delete(-1, 1)");
        expect.yes(x.delete(0, 3), "5: one in the middle");
        keys(x, 0, 1, 2, 4, 5);
        expect.yes(x.delete(0, 1), "5: the first one");
        expect.yes(x.delete(0, 5), "5: the last one");
        keys(x, 0, 2, 4);
        row(x, 0, 2, 20L);
        row(x, 0, 4, 40L);
        expect.no(x.delete(0, 3), "5: one that has gone");
        keys(x, 1, 1, 2, 3, 4, 5);
        expect.yes(x.delete(0, 2) && x.delete(0, 4), "5: all the others");
        expect.is(0, x.count(0), "5: an empty table");
        expect.yes(x.insert(0, 3), "5: the key may come again");
    }

    private static void slotsComeBackClean() {
        TableMachine x = new TableMachine();
        x.table(4);
        x.table(2);
        for (int k = 0; k < 4; k++) {
            x.set(k, true, 100 + k);
        }
        for (int round = 0; round < 100; round++) {
            expect.yes(x.insert(0, round), "5: row in round " + round);
            expect.yes(x.delete(0, round), "5: it goes in round " + round);
        }
        for (int k = 0; k < 4; k++) {
            x.set(k, false, 0);
        }
        x.insert(1, 1);
        row(x, 1, 1, null, null);
        x.insert(0, 1);
        row(x, 0, 1, null, null, null, null);
    }

    private static void count() {
        TableMachine x = new TableMachine();
        x.table(2);
        expect.is(0, x.count(0), "6: an empty table");
        x.insert(0, 1);
        x.insert(0, 1);
        x.insert(0, 2);
        expect.is(2, x.count(0), "6: two rows");
        x.delete(0, 1);
        expect.is(1, x.count(0), "6: one row");
        expect.is(TableMachine.NONE, x.count(1), "6: count(1)");
        expect.is(TableMachine.NONE, x.count(-1), "6: count(-1)");
        expect.is(TableMachine.NONE, x.count(Integer.MIN_VALUE), "6: count of the least number");
    }

    private static void next() {
        TableMachine x = new TableMachine();
        expect.argument(() -> x.next(0, 0, false), "7: next without a table");
        x.table(1);
        expect.element(() -> x.next(0, Long.MIN_VALUE, false), "7: next in an empty table");
        x.insert(0, 10);
        x.insert(0, -10);
        x.insert(0, Long.MIN_VALUE);
        expect.is(Long.MIN_VALUE, x.next(0, Long.MIN_VALUE, false), "7: not below the least");
        expect.is(-10, x.next(0, Long.MIN_VALUE, true), "7: above the least");
        expect.is(-10, x.next(0, -10, false), "7: not below -10");
        expect.is(10, x.next(0, -10, true), "7: above -10");
        expect.is(10, x.next(0, -9, false), "7: not below -9");
        expect.is(10, x.next(0, -9, true), "7: above -9");
        expect.is(10, x.next(0, 9, true), "7: above 9");
        expect.element(() -> x.next(0, 10, true), "7: above 10");
        expect.element(() -> x.next(0, 11, false), "7: not below 11");
        expect.element(() -> x.next(0, Long.MAX_VALUE, false), "7: not below the greatest");
        x.insert(0, Long.MAX_VALUE);
        expect.is(Long.MAX_VALUE, x.next(0, Long.MAX_VALUE, false), "7: the greatest");
        expect.element(() -> x.next(0, Long.MAX_VALUE, true), "7: above the greatest");
        expect.argument(() -> x.next(1, 0, false), "7: next(1, ..)");
        expect.argument(() -> x.next(-1, 0, true), "7: next(-1, ..)");
    }

    private static void value() {
        TableMachine x = new TableMachine();
        expect.argument(() -> x.value(0, 0, 0), "8: value without a table");
        expect.argument(() -> x.isNull(0, 0, 0), "9: isNull without a table");
        x.table(2);
        x.table(4);
        x.set(0, true, -1);
        x.set(2, true, 5);
        x.insert(0, 7);
        x.insert(1, 7);
        expect.is(-1, x.value(0, 7, 0), "8: a value");
        expect.no(x.isNull(0, 7, 0), "9: a value");
        expect.is(0, x.value(0, 7, 1), "8: NULL");
        expect.yes(x.isNull(0, 7, 1), "9: NULL");
        expect.is(5, x.value(1, 7, 2), "8: column 2 of table 1");
        int[][] wrong = {{0, 2}, {0, -1}, {0, 4}, {1, 4}, {2, 0}, {-1, 0}};
        for (int[] tk : wrong) {
            for (long key : new long[] {7, 8}) {
                String what = "(" + tk[0] + ", " + key + ", " + tk[1] + ")";
                expect.argument(() -> x.value(tk[0], key, tk[1]), "8: value" + what);
                expect.argument(() -> x.isNull(tk[0], key, tk[1]), "9: isNull" + what);
            }
        }
        expect.element(() -> x.value(0, 8, 1), "8: no such row");
        expect.element(() -> x.isNull(0, 8, 1), "9: no such row");
        expect.element(() -> x.value(0, 6, 1), "8: no such row below");
        expect.element(() -> x.isNull(0, 6, 1), "9: no such row below");
    }

    private static void row(TableMachine x, int table, long key, Long... due) {
        for (int k = 0; k < due.length; k++) {
            String what = "column " + k + " of row " + key + " of table " + table;
            expect.is(due[k] == null ? 0 : due[k], x.value(table, key, k), "8: " + what);
            expect.answers(due[k] == null, x.isNull(table, key, k), "9: " + what);
        }
    }

    private static void keys(TableMachine x, int table, long... due) {
        expect.is(due.length, x.count(table), "6: rows of table " + table);
        expect.is(due[0], x.next(table, Long.MIN_VALUE, false), "7: first key of table " + table);
        for (int i = 1; i < due.length; i++) {
            expect.is(due[i], x.next(table, due[i - 1], true), "7: key " + i + " of table " + table);
        }
        expect.element(() -> x.next(table, due[due.length - 1], true), "7: behind the last key of table " + table);
    }
}
