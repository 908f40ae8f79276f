import java.util.NoSuchElementException;

/**
 * Tables of rows by key, a register machine that goes over them with cursors, and a compiler that
 * makes its programs out of questions.
 */
public final class TableMachine {

    public static final int NONE = -1;

    private static final int MAX_TABLES = 3;
    private static final int MAX_COLUMNS = 4;
    private static final int MAX_ROWS = 90;
    private static final int MAX_INSTRUCTIONS = 60;
    private static final int MAX_FUEL = 4000;
    private static final int MAX_RESULTS = 64;
    private static final int MAX_WIDTH = 4;
    private static final int MAX_OUTPUTS = 4;
    private static final int MAX_CONDITIONS = 4;
    private static final int REGISTERS = 16;
    private static final int CURSORS = 3;
    private static final int WORDS = 4;

    private static final int HALTED = 0;
    private static final int OUT_OF_FUEL = 1;
    private static final int TOO_MANY_RESULTS = 2;
    private static final int CURSOR_SHUT = 3;

    private final Machine machine = new Machine();
    private final Store store = machine.store;
    private final Program program = machine.program;
    private final Results results = machine.results;
    private final Values coming = new Values(MAX_COLUMNS);
    private final Question question = new Question();

    public TableMachine() {
    }

    public int table(int n) throws IllegalArgumentException, IllegalStateException {
        if (n < 1 || n > MAX_COLUMNS) {
            throw new IllegalArgumentException("a table has 1 to 4 columns");
        }
        if (store.tableCount == MAX_TABLES) {
            throw new IllegalStateException("there are 3 tables");
        }
        return store.begin(n);
    }

    public boolean set(int k, boolean not, long v) {
        if (!isIndex(k, MAX_COLUMNS)) {
            return false;
        }
        if (not) {
            coming.put(k, v);
        } else {
            coming.clear(k);
        }
        return true;
    }

    public boolean insert(int table, long key) throws IllegalArgumentException, IllegalStateException {
        requireTable(table);
        if (store.isFull()) {
            throw new IllegalStateException("there are 90 rows");
        }
        return store.bring(table, key, coming, 0);
    }

    public boolean delete(int table, long key) throws IllegalArgumentException {
        requireTable(table);
        return store.drop(table, key);
    }

    public int count(int table) {
        return store.hasTable(table) ? store.tables[table].size : NONE;
    }

    public long next(int table, long key, boolean above) throws IllegalArgumentException, NoSuchElementException {
        requireTable(table);
        int place = store.rowsBelow(table, key, above);
        if (!store.hasPlace(table, place)) {
            throw new NoSuchElementException("there is no such key");
        }
        return store.keyAt(table, place);
    }

    public long value(int table, long key, int k) throws IllegalArgumentException, NoSuchElementException {
        return store.cells.number(requireCell(table, key, k));
    }

    public boolean isNull(int table, long key, int k) throws IllegalArgumentException, NoSuchElementException {
        return !store.cells.has(requireCell(table, key, k));
    }

    public int add(int op, int p, int q, int s) throws IllegalArgumentException, IllegalStateException {
        if (!Op.accepts(op, p, q, s)) {
            throw new IllegalArgumentException("there is no such instruction");
        }
        if (program.size == MAX_INSTRUCTIONS) {
            throw new IllegalStateException("there are 60 instructions");
        }
        program.append(op, Op.kept(op, 0, p), Op.kept(op, 1, q), Op.kept(op, 2, s));
        return program.size - 1;
    }

    public void wipe() {
        program.size = 0;
    }

    public int code(int k, int w) throws IndexOutOfBoundsException {
        if (!isIndex(k, program.size) || !isIndex(w, WORDS)) {
            throw new IndexOutOfBoundsException("there is no such instruction or part of it");
        }
        return program.word(k, w);
    }

    public int run(int fuel) throws IllegalArgumentException {
        if (fuel < 0 || fuel > MAX_FUEL) {
            throw new IllegalArgumentException("fuel is 0 to 4000");
        }
        if (!program.isSound(store.tableCount)) {
            throw new IllegalArgumentException("an instruction names a table or a number that there is not");
        }
        return machine.execute(fuel);
    }

    public long result(int i, int k) throws IndexOutOfBoundsException {
        if (i == NONE) {
            return results.size;
        }
        if (k == NONE && results.hasRow(i)) {
            return results.widths[i];
        }
        return results.cells.number(requireResult(i, k));
    }

    public boolean wasNull(int i, int k) throws IndexOutOfBoundsException {
        return !results.cells.has(requireResult(i, k));
    }

    public boolean ask(int t, int u) {
        if (!store.hasTable(t) || (u != NONE && !store.hasTable(u))) {
            return false;
        }
        question.begin(t, u);
        return true;
    }

    public boolean output(int cursor, int k) {
        if (question.outputs == MAX_OUTPUTS || !canAskFor(cursor, k)) {
            return false;
        }
        question.bringOutput(cursor, k);
        return true;
    }

    public boolean condition(int cursor, int k, int comparison, int number) {
        if (question.conditions == MAX_CONDITIONS || !canAskFor(cursor, k)) {
            return false;
        }
        if (!isIndex(comparison, Question.COMPARISONS)) {
            return false;
        }
        question.bringCondition(cursor, k, comparison, number);
        return true;
    }

    public boolean join(int k, int l) {
        // The second cursor is there only with two tables.
        if (!canAskFor(0, k) || !canAskFor(1, l)) {
            return false;
        }
        question.bringJoin(k, l);
        return true;
    }

    public int compile() throws IllegalStateException {
        // Without a question there can be no outputs.
        if (question.outputs == 0) {
            throw new IllegalStateException("there is no question, or it has no outputs");
        }
        // Where a program goes forward to is told from its end, so it is written a first time only
        // to learn how long it is.
        question.writeTo(program, 0);
        question.writeTo(program, program.size);
        return program.size;
    }

    private static boolean isIndex(int i, int size) {
        return i >= 0 && i < size;
    }

    private void requireTable(int table) {
        if (!store.hasTable(table)) {
            throw new IllegalArgumentException("there is no such table");
        }
    }

    private int requireCell(int table, long key, int k) {
        if (!store.hasColumn(table, k)) {
            throw new IllegalArgumentException("there is no such table or column");
        }
        int slot = store.slotOf(table, key);
        if (slot == NONE) {
            throw new NoSuchElementException("there is no such row");
        }
        return slot * MAX_COLUMNS + k;
    }

    private int requireResult(int i, int k) {
        if (!results.hasRow(i) || !isIndex(k, results.widths[i])) {
            throw new IndexOutOfBoundsException("there is no such row or value");
        }
        return i * MAX_WIDTH + k;
    }

    private boolean canAskFor(int cursor, int k) {
        if (!question.hasCursor(cursor)) {
            return false;
        }
        return k == NONE || store.hasColumn(question.tables[cursor], k);
    }

    /** The 22 instructions, and what their p, q and s are. */
    private static final class Op {
        static final int HALT = 0;
        static final int OPEN = 1;
        static final int REWIND = 2;
        static final int NEXT = 3;
        static final int COLUMN = 4;
        static final int ROWID = 5;
        static final int INTEGER = 6;
        static final int NULL = 7;
        static final int SEEK = 8;
        static final int EQ = 9;
        static final int NE = 10;
        static final int LT = 11;
        static final int LE = 12;
        static final int GT = 13;
        static final int GE = 14;
        static final int ISNULL = 15;
        static final int NOTNULL = 16;
        static final int ADD = 17;
        static final int RESULT = 18;
        static final int GOTO = 19;
        static final int INSERT = 20;
        static final int DELETE = 21;

        private static final int COUNT = 22;
        private static final int OPERANDS = 3;

        private static final int[] KINDS = {
            /* HALT    */ Kind.NOTHING, Kind.NOTHING, Kind.NOTHING,
            /* OPEN    */ Kind.CURSOR, Kind.TABLE, Kind.NOTHING,
            /* REWIND  */ Kind.CURSOR, Kind.TARGET, Kind.NOTHING,
            /* NEXT    */ Kind.CURSOR, Kind.TARGET, Kind.NOTHING,
            /* COLUMN  */ Kind.CURSOR, Kind.COLUMN, Kind.REGISTER,
            /* ROWID   */ Kind.CURSOR, Kind.REGISTER, Kind.NOTHING,
            /* INTEGER */ Kind.NUMBER, Kind.REGISTER, Kind.NOTHING,
            /* NULL    */ Kind.REGISTER, Kind.NOTHING, Kind.NOTHING,
            /* SEEK    */ Kind.CURSOR, Kind.TARGET, Kind.REGISTER,
            /* EQ      */ Kind.REGISTER, Kind.TARGET, Kind.REGISTER,
            /* NE      */ Kind.REGISTER, Kind.TARGET, Kind.REGISTER,
            /* LT      */ Kind.REGISTER, Kind.TARGET, Kind.REGISTER,
            /* LE      */ Kind.REGISTER, Kind.TARGET, Kind.REGISTER,
            /* GT      */ Kind.REGISTER, Kind.TARGET, Kind.REGISTER,
            /* GE      */ Kind.REGISTER, Kind.TARGET, Kind.REGISTER,
            /* ISNULL  */ Kind.REGISTER, Kind.TARGET, Kind.NOTHING,
            /* NOTNULL */ Kind.REGISTER, Kind.TARGET, Kind.NOTHING,
            /* ADD     */ Kind.REGISTER, Kind.REGISTER, Kind.REGISTER,
            /* RESULT  */ Kind.REGISTER, Kind.WIDTH, Kind.NOTHING,
            /* GOTO    */ Kind.TARGET, Kind.NOTHING, Kind.NOTHING,
            /* INSERT  */ Kind.CURSOR, Kind.TARGET, Kind.ROW_REGISTERS,
            /* DELETE  */ Kind.CURSOR, Kind.NOTHING, Kind.NOTHING
        };

        static int kind(int op, int operand) {
            return KINDS[op * OPERANDS + operand];
        }

        static boolean accepts(int op, int p, int q, int s) {
            if (!isIndex(op, COUNT)) {
                return false;
            }
            if (!Kind.takes(kind(op, 0), p) || !Kind.takes(kind(op, 1), q) || !Kind.takes(kind(op, 2), s)) {
                return false;
            }
            return op != RESULT || p + q <= REGISTERS;
        }

        static int kept(int op, int operand, int given) {
            return kind(op, operand) == Kind.NOTHING ? 0 : given;
        }

        static boolean needsOpenCursor(int op) {
            return op != OPEN && kind(op, 0) == Kind.CURSOR;
        }
    }

    /** The kinds of operands, and from where to where each goes. */
    private static final class Kind {
        static final int NOTHING = 0;
        static final int CURSOR = 1;
        static final int TABLE = 2;
        static final int TARGET = 3;
        static final int COLUMN = 4;
        static final int REGISTER = 5;
        static final int ROW_REGISTERS = 6;
        static final int WIDTH = 7;
        static final int NUMBER = 8;

        static boolean takes(int kind, int operand) {
            switch (kind) {
                case CURSOR:
                    return isIndex(operand, CURSORS);
                case TABLE:
                    return isIndex(operand, MAX_TABLES);
                case TARGET:
                    return isIndex(operand, MAX_INSTRUCTIONS + 1);
                case COLUMN:
                    return isIndex(operand, MAX_COLUMNS);
                case REGISTER:
                    return isIndex(operand, REGISTERS);
                case ROW_REGISTERS:
                    // Behind the key's register there must be one for each column a table can have.
                    return isIndex(operand, REGISTERS - MAX_COLUMNS);
                case WIDTH:
                    return operand >= 1 && operand <= MAX_WIDTH;
                default: // NOTHING, NUMBER
                    return true;
            }
        }
    }

    /** A strip of values. A NULL is kept as number 0, as the face tells it so. */
    private static final class Values {
        private final long[] numbers;
        private final boolean[] known;

        Values(int size) {
            numbers = new long[size];
            known = new boolean[size];
        }

        boolean has(int i) {
            return known[i];
        }

        long number(int i) {
            return numbers[i];
        }

        void put(int i, long number) {
            numbers[i] = number;
            known[i] = true;
        }

        void clear(int i) {
            numbers[i] = 0;
            known[i] = false;
        }

        void clearAll() {
            for (int i = 0; i < numbers.length; i++) {
                clear(i);
            }
        }

        void copy(int i, Values from, int j) {
            numbers[i] = from.numbers[j];
            known[i] = from.known[j];
        }
    }

    /** The rows of a table, by rising keys, as the numbers of their slots in the store. */
    private static final class Table {
        int columns = 0;
        int size = 0;
        final int[] slots = new int[MAX_ROWS];

        void open(int place, int slot) {
            for (int i = size; i > place; i--) {
                slots[i] = slots[i - 1];
            }
            slots[place] = slot;
            size++;
        }

        void close(int place) {
            size--;
            for (int i = place; i < size; i++) {
                slots[i] = slots[i + 1];
            }
        }
    }

    /**
     * The tables, and the 90 slots for rows that they share: the limit is one for all tables, and
     * slots that are made once and lent again leave nothing for a later call to make.
     */
    private static final class Store {
        // The greatest power of two that is no more than the number of rows.
        private static final int WIDEST_STEP = 64;

        final Table[] tables = new Table[MAX_TABLES];
        int tableCount = 0;
        final Values cells = new Values(MAX_ROWS * MAX_COLUMNS);
        private final long[] keys = new long[MAX_ROWS];
        private final int[] spare = new int[MAX_ROWS];
        private int spareCount = MAX_ROWS;

        Store() {
            for (int t = 0; t < MAX_TABLES; t++) {
                tables[t] = new Table();
            }
            for (int i = 0; i < MAX_ROWS; i++) {
                spare[i] = i;
            }
        }

        int begin(int columns) {
            int t = tableCount;
            tables[t].columns = columns;
            tableCount++;
            return t;
        }

        boolean hasTable(int t) {
            return isIndex(t, tableCount);
        }

        boolean hasColumn(int t, int k) {
            return hasTable(t) && isIndex(k, tables[t].columns);
        }

        boolean isFull() {
            return spareCount == 0;
        }

        boolean hasPlace(int t, int place) {
            return place < tables[t].size;
        }

        long keyAt(int t, int place) {
            return keys[tables[t].slots[place]];
        }

        /** How many rows have keys below this one, or (if orAt) not above it. */
        int rowsBelow(int t, long key, boolean orAt) {
            Table table = tables[t];
            int below = 0;
            for (int step = WIDEST_STEP; step > 0; step /= 2) {
                int last = below + step - 1;
                if (last < table.size) {
                    long found = keys[table.slots[last]];
                    if (found < key || (orAt && found == key)) {
                        below += step;
                    }
                }
            }
            return below;
        }

        int slotOf(int t, long key) {
            int place = rowsBelow(t, key, false);
            return isAt(t, place, key) ? tables[t].slots[place] : NONE;
        }

        boolean bring(int t, long key, Values from, int first) {
            int place = rowsBelow(t, key, false);
            if (isFull() || isAt(t, place, key)) {
                return false;
            }
            spareCount--;
            int slot = spare[spareCount];
            keys[slot] = key;
            for (int k = 0; k < tables[t].columns; k++) {
                cells.copy(slot * MAX_COLUMNS + k, from, first + k);
            }
            tables[t].open(place, slot);
            return true;
        }

        boolean drop(int t, long key) {
            int place = rowsBelow(t, key, false);
            if (!isAt(t, place, key)) {
                return false;
            }
            spare[spareCount] = tables[t].slots[place];
            spareCount++;
            tables[t].close(place);
            return true;
        }

        private boolean isAt(int t, int place, long key) {
            Table table = tables[t];
            return place < table.size && keys[table.slots[place]] == key;
        }
    }

    /** Keeps a key, not a place: rows may come and go while it is open. */
    private static final class Cursor {
        int table = NONE;
        boolean hasKey = false;
        long key = 0;

        void open(int t) {
            table = t;
            hasKey = false;
        }

        void shut() {
            open(NONE);
        }

        boolean isShut() {
            return table == NONE;
        }
    }

    private static final class Program {
        int size = 0;
        private final int[] words = new int[MAX_INSTRUCTIONS * WORDS];

        int word(int k, int w) {
            return words[k * WORDS + w];
        }

        void append(int op, int p, int q, int s) {
            int start = size * WORDS;
            words[start] = op;
            words[start + 1] = p;
            words[start + 2] = q;
            words[start + 3] = s;
            size++;
        }

        /** Whether there are all the tables and instructions that it names. */
        boolean isSound(int tableCount) {
            for (int k = 0; k < size; k++) {
                for (int w = 1; w < WORDS; w++) {
                    int kind = Op.kind(word(k, 0), w - 1);
                    if (kind == Kind.TABLE && word(k, w) >= tableCount) {
                        return false;
                    }
                    if (kind == Kind.TARGET && word(k, w) > size) {
                        return false;
                    }
                }
            }
            return true;
        }
    }

    private static final class Results {
        int size = 0;
        final int[] widths = new int[MAX_RESULTS];
        final Values cells = new Values(MAX_RESULTS * MAX_WIDTH);

        boolean hasRow(int i) {
            return isIndex(i, size);
        }

        boolean take(Values registers, int first, int width) {
            if (size == MAX_RESULTS) {
                return false;
            }
            widths[size] = width;
            for (int k = 0; k < width; k++) {
                cells.copy(size * MAX_WIDTH + k, registers, first + k);
            }
            size++;
            return true;
        }
    }

    private static final class Machine {
        final Store store = new Store();
        final Program program = new Program();
        final Results results = new Results();
        private final Values registers = new Values(REGISTERS);
        private final Cursor[] cursors = new Cursor[CURSORS];
        private int outcome = HALTED;

        Machine() {
            for (int c = 0; c < CURSORS; c++) {
                cursors[c] = new Cursor();
            }
        }

        int execute(int fuel) {
            reset();
            int at = 0;
            for (int done = 0; done < fuel && at < program.size; done++) {
                int op = program.word(at, 0);
                at = Op.needsOpenCursor(op) ? useCursor(op, at) : compute(op, at);
            }
            return at < program.size ? OUT_OF_FUEL : outcome;
        }

        private void reset() {
            registers.clearAll();
            for (int c = 0; c < CURSORS; c++) {
                cursors[c].shut();
            }
            results.size = 0;
            outcome = HALTED;
        }

        /** Ends the run: behind the last instruction there is nothing more to do. */
        private int end(int how) {
            outcome = how;
            return program.size;
        }

        /** Does an instruction that needs an open cursor; answers the number of the one to do then. */
        private int useCursor(int op, int at) {
            Cursor cursor = cursors[program.word(at, 1)];
            if (cursor.isShut()) {
                return end(CURSOR_SHUT);
            }
            int q = program.word(at, 2);
            int s = program.word(at, 3);
            int following = at + 1;
            switch (op) {
                case Op.REWIND:
                    return moveTo(cursor, 0) ? following : q;
                case Op.NEXT:
                    return advance(cursor) ? q : following;
                case Op.COLUMN:
                    readColumn(cursor, q, s);
                    return following;
                case Op.ROWID:
                    readKey(cursor, q);
                    return following;
                case Op.SEEK:
                    return seek(cursor, s) ? following : q;
                case Op.INSERT:
                    return bringRow(cursor, s) ? following : q;
                default: // DELETE
                    dropRow(cursor);
                    return following;
            }
        }

        /** Does any other instruction; answers likewise. */
        private int compute(int op, int at) {
            int p = program.word(at, 1);
            int q = program.word(at, 2);
            int s = program.word(at, 3);
            int following = at + 1;
            switch (op) {
                case Op.HALT:
                    return end(HALTED);
                case Op.OPEN:
                    cursors[p].open(q);
                    return following;
                case Op.INTEGER:
                    registers.put(q, p);
                    return following;
                case Op.NULL:
                    registers.clear(p);
                    return following;
                case Op.ISNULL:
                    return registers.has(p) ? following : q;
                case Op.NOTNULL:
                    return registers.has(p) ? q : following;
                case Op.ADD:
                    sum(p, q, s);
                    return following;
                case Op.RESULT:
                    return results.take(registers, p, q) ? following : end(TOO_MANY_RESULTS);
                case Op.GOTO:
                    return p;
                default: // EQ to GE
                    return holds(op, p, s) ? q : following;
            }
        }

        private boolean moveTo(Cursor cursor, int place) {
            cursor.hasKey = store.hasPlace(cursor.table, place);
            if (cursor.hasKey) {
                cursor.key = store.keyAt(cursor.table, place);
            }
            return cursor.hasKey;
        }

        private boolean advance(Cursor cursor) {
            if (!cursor.hasKey) {
                return false;
            }
            int place = store.rowsBelow(cursor.table, cursor.key, true);
            // At the last row the cursor keeps its key.
            return store.hasPlace(cursor.table, place) && moveTo(cursor, place);
        }

        private boolean seek(Cursor cursor, int r) {
            if (!registers.has(r)) {
                cursor.hasKey = false;
                return false;
            }
            return moveTo(cursor, store.rowsBelow(cursor.table, registers.number(r), false));
        }

        private int slotAt(Cursor cursor) {
            return cursor.hasKey ? store.slotOf(cursor.table, cursor.key) : NONE;
        }

        private void readColumn(Cursor cursor, int k, int r) {
            int slot = slotAt(cursor);
            if (slot == NONE || !store.hasColumn(cursor.table, k)) {
                registers.clear(r);
            } else {
                registers.copy(r, store.cells, slot * MAX_COLUMNS + k);
            }
        }

        private void readKey(Cursor cursor, int r) {
            if (slotAt(cursor) == NONE) {
                registers.clear(r);
            } else {
                registers.put(r, cursor.key);
            }
        }

        private boolean bringRow(Cursor cursor, int r) {
            return registers.has(r) && store.bring(cursor.table, registers.number(r), registers, r + 1);
        }

        private void dropRow(Cursor cursor) {
            if (cursor.hasKey) {
                store.drop(cursor.table, cursor.key);
            }
        }

        private void sum(int a, int b, int r) {
            if (registers.has(a) && registers.has(b)) {
                registers.put(r, registers.number(a) + registers.number(b));
            } else {
                registers.clear(r);
            }
        }

        private boolean holds(int op, int a, int b) {
            if (!registers.has(a) || !registers.has(b)) {
                return false;
            }
            int order = Long.compare(registers.number(a), registers.number(b));
            switch (op) {
                case Op.EQ:
                    return order == 0;
                case Op.NE:
                    return order != 0;
                case Op.LT:
                    return order < 0;
                case Op.LE:
                    return order <= 0;
                case Op.GT:
                    return order > 0;
                default: // GE
                    return order >= 0;
            }
        }
    }

    /** A question, and how it is compiled. Its longest program has 34 instructions. */
    private static final class Question {
        static final int COMPARISONS = 8;
        private static final int EQUAL = 0;
        private static final int GREATER = 4;
        private static final int NOT_LESS = 5;
        private static final int IS_NULL = 6;

        // Registers 0 and 1 are what a condition compares; the outputs begin behind them.
        private static final int LEFT = 0;
        private static final int RIGHT = 1;
        private static final int FIRST_OUTPUT = 2;

        final int[] tables = new int[2];
        int outputs = 0;
        int conditions = 0;
        private int cursors = 0;
        private final int[] outputCursors = new int[MAX_OUTPUTS];
        private final int[] outputColumns = new int[MAX_OUTPUTS];
        private final int[] conditionCursors = new int[MAX_CONDITIONS];
        private final int[] conditionColumns = new int[MAX_CONDITIONS];
        private final int[] comparisons = new int[MAX_CONDITIONS];
        private final int[] numbers = new int[MAX_CONDITIONS];
        private boolean joined = false;
        private int firstJoined = NONE;
        private int secondJoined = NONE;

        void begin(int t, int u) {
            tables[0] = t;
            tables[1] = u;
            cursors = u == NONE ? 1 : 2;
            outputs = 0;
            conditions = 0;
            joined = false;
        }

        boolean hasCursor(int cursor) {
            return isIndex(cursor, cursors);
        }

        void bringOutput(int cursor, int k) {
            outputCursors[outputs] = cursor;
            outputColumns[outputs] = k;
            outputs++;
        }

        void bringCondition(int cursor, int k, int comparison, int number) {
            conditionCursors[conditions] = cursor;
            conditionColumns[conditions] = k;
            comparisons[conditions] = comparison;
            numbers[conditions] = number;
            conditions++;
        }

        void bringJoin(int k, int l) {
            joined = true;
            firstJoined = k;
            secondJoined = l;
        }

        /** Writes the program; what it goes forward to is right if it becomes as long as is told. */
        void writeTo(Program program, int length) {
            int halt = length - 1;
            int next = halt - 1;
            program.size = 0;
            for (int c = 0; c < cursors; c++) {
                program.append(Op.OPEN, c, tables[c], 0);
            }
            writeStart(program, 0, halt);
            int top = program.size;
            writeConditions(program, 0, next);
            if (cursors == 2) {
                writeInnerLoop(program, next);
            } else {
                writeOutputs(program);
            }
            program.append(Op.NEXT, 0, top, 0);
            program.append(Op.HALT, 0, 0, 0);
        }

        private void writeInnerLoop(Program program, int outerNext) {
            int next = outerNext - 1;
            writeStart(program, 1, outerNext);
            int top = program.size;
            writeConditions(program, 1, next);
            if (joined) {
                writeJoin(program, next);
            }
            writeOutputs(program);
            program.append(Op.NEXT, 1, top, 0);
        }

        private void writeStart(Program program, int cursor, int exit) {
            int i = seekable(cursor);
            if (i == NONE) {
                program.append(Op.REWIND, cursor, exit, 0);
            } else {
                program.append(Op.INTEGER, numbers[i], LEFT, 0);
                program.append(Op.SEEK, cursor, exit, LEFT);
            }
        }

        /** The first condition that tells a key below which the loop has nothing to look for. */
        private int seekable(int cursor) {
            for (int i = 0; i < conditions; i++) {
                if (conditionCursors[i] == cursor && conditionColumns[i] == NONE && isFromBelow(comparisons[i])) {
                    return i;
                }
            }
            return NONE;
        }

        private static boolean isFromBelow(int comparison) {
            return comparison == EQUAL || comparison == GREATER || comparison == NOT_LESS;
        }

        private void writeConditions(Program program, int cursor, int next) {
            for (int i = 0; i < conditions; i++) {
                if (conditionCursors[i] == cursor) {
                    writeCondition(program, i, next);
                }
            }
        }

        private void writeCondition(Program program, int i, int next) {
            writeColumn(program, conditionCursors[i], conditionColumns[i], LEFT);
            // The instructions from EQ on stand in the order of the comparisons.
            int op = Op.EQ + comparisons[i];
            if (comparisons[i] < IS_NULL) {
                program.append(Op.INTEGER, numbers[i], RIGHT, 0);
                writeTest(program, op, RIGHT, next);
            } else {
                writeTest(program, op, 0, next);
            }
        }

        private void writeJoin(Program program, int next) {
            writeColumn(program, 0, firstJoined, LEFT);
            writeColumn(program, 1, secondJoined, RIGHT);
            writeTest(program, Op.EQ, RIGHT, next);
        }

        /** Goes round the GOTO if the test holds. */
        private void writeTest(Program program, int op, int right, int next) {
            program.append(op, LEFT, program.size + 2, right);
            program.append(Op.GOTO, next, 0, 0);
        }

        private void writeOutputs(Program program) {
            for (int i = 0; i < outputs; i++) {
                writeColumn(program, outputCursors[i], outputColumns[i], FIRST_OUTPUT + i);
            }
            program.append(Op.RESULT, FIRST_OUTPUT, outputs, 0);
        }

        private void writeColumn(Program program, int cursor, int k, int r) {
            if (k == NONE) {
                program.append(Op.ROWID, cursor, r, 0);
            } else {
                program.append(Op.COLUMN, cursor, k, r);
            }
        }
    }
}
