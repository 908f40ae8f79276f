import java.util.ArrayList;
import java.util.List;
import java.util.NoSuchElementException;
import java.util.TreeMap;

/** The document written a second time, in the plainest way that the Java library allows; null is NULL. */
public final class Reference {
    private final List<Integer> widths = new ArrayList<>();
    private final List<TreeMap<Long, Long[]>> tables = new ArrayList<>();
    private final Long[] coming = new Long[4];
    private List<int[]> program = new ArrayList<>();
    private List<Long[]> results = new ArrayList<>();
    private int[] asked = null;
    private final List<int[]> outputs = new ArrayList<>();
    private final List<int[]> conditions = new ArrayList<>();
    private int[] joined = null;

    public int table(int n) {
        if (n < 1 || n > 4) {
            throw new IllegalArgumentException();
        }
        if (tables.size() == 3) {
            throw new IllegalStateException();
        }
        widths.add(n);
        tables.add(new TreeMap<>());
        return tables.size() - 1;
    }

    public boolean set(int k, boolean not, long v) {
        if (k < 0 || k > 3) {
            return false;
        }
        coming[k] = not ? v : null;
        return true;
    }

    private boolean isTable(int t) {
        return t >= 0 && t < tables.size();
    }

    private TreeMap<Long, Long[]> rows(int t) {
        if (!isTable(t)) {
            throw new IllegalArgumentException();
        }
        return tables.get(t);
    }

    private boolean full() {
        return tables.stream().mapToInt(t -> t.size()).sum() >= 90;
    }

    public boolean insert(int table, long key) {
        TreeMap<Long, Long[]> rows = rows(table);
        if (full()) {
            throw new IllegalStateException();
        }
        return rows.putIfAbsent(key, java.util.Arrays.copyOf(coming, widths.get(table))) == null;
    }

    public boolean delete(int table, long key) {
        return rows(table).remove(key) != null;
    }

    public int count(int table) {
        return isTable(table) ? tables.get(table).size() : -1;
    }

    public long next(int table, long key, boolean above) {
        Long found = above ? rows(table).higherKey(key) : rows(table).ceilingKey(key);
        if (found == null) {
            throw new NoSuchElementException();
        }
        return found;
    }

    private Long cell(int table, long key, int k) {
        TreeMap<Long, Long[]> rows = rows(table);
        if (k < 0 || k >= widths.get(table)) {
            throw new IllegalArgumentException();
        }
        if (!rows.containsKey(key)) {
            throw new NoSuchElementException();
        }
        return rows.get(key)[k];
    }

    public long value(int table, long key, int k) {
        Long v = cell(table, key, k);
        return v == null ? 0 : v;
    }

    public boolean isNull(int table, long key, int k) {
        return cell(table, key, k) == null;
    }

    private static void range(int x, int least, int most) {
        if (x < least || x > most) {
            throw new IllegalArgumentException();
        }
    }

    public int add(int op, int p, int q, int s) {
        switch (op) {
            case 0: p = q = s = 0; break;
            case 1: range(p, 0, 2); range(q, 0, 2); s = 0; break;
            case 2: case 3: range(p, 0, 2); range(q, 0, 60); s = 0; break;
            case 4: range(p, 0, 2); range(q, 0, 3); range(s, 0, 15); break;
            case 5: range(p, 0, 2); range(q, 0, 15); s = 0; break;
            case 6: range(q, 0, 15); s = 0; break;
            case 7: range(p, 0, 15); q = s = 0; break;
            case 8: range(p, 0, 2); range(q, 0, 60); range(s, 0, 15); break;
            case 9: case 10: case 11: case 12: case 13: case 14:
                range(p, 0, 15); range(q, 0, 60); range(s, 0, 15); break;
            case 15: case 16: range(p, 0, 15); range(q, 0, 60); s = 0; break;
            case 17: range(p, 0, 15); range(q, 0, 15); range(s, 0, 15); break;
            case 18: range(q, 1, 4); range(p, 0, 16 - q); s = 0; break;
            case 19: range(p, 0, 60); q = s = 0; break;
            case 20: range(p, 0, 2); range(q, 0, 60); range(s, 0, 11); break;
            case 21: range(p, 0, 2); q = s = 0; break;
            default: throw new IllegalArgumentException();
        }
        if (program.size() == 60) {
            throw new IllegalStateException();
        }
        program.add(new int[] {op, p, q, s});
        return program.size() - 1;
    }

    public void wipe() {
        program.clear();
    }

    public int code(int k, int w) {
        if (k < 0 || k >= program.size() || w < 0 || w > 3) {
            throw new IndexOutOfBoundsException();
        }
        return program.get(k)[w];
    }

    private static boolean truth(int comparison, long a, long b) {
        switch (comparison) {
            case 0: return a == b;
            case 1: return a != b;
            case 2: return a < b;
            case 3: return a <= b;
            case 4: return a > b;
            default: return a >= b;
        }
    }

    public int run(int fuel) {
        range(fuel, 0, 4000);
        for (int[] i : program) {
            boolean secondIsTarget = i[0] == 2 || i[0] == 3 || i[0] >= 8 && i[0] <= 16 || i[0] == 20;
            int target = secondIsTarget ? i[2] : i[0] == 19 ? i[1] : 0;
            if (target > program.size() || i[0] == 1 && i[2] >= tables.size()) {
                throw new IllegalArgumentException();
            }
        }
        results = new ArrayList<>();
        Long[] r = new Long[16];
        Integer[] open = new Integer[3];
        Long[] key = new Long[3];
        int at = 0;
        while (at != program.size()) {
            if (fuel-- == 0) {
                return 1;
            }
            int[] i = program.get(at++);
            int p = i[1], q = i[2], s = i[3];
            boolean cursed = i[0] >= 2 && i[0] <= 5 || i[0] == 8 || i[0] >= 20;
            if (cursed && open[p] == null) {
                return 3;
            }
            TreeMap<Long, Long[]> rows = cursed ? tables.get(open[p]) : null;
            Long[] row = cursed && key[p] != null ? rows.get(key[p]) : null;
            switch (i[0]) {
                case 0: return 0;
                case 1: open[p] = q; key[p] = null; break;
                case 2: key[p] = rows.isEmpty() ? null : rows.firstKey(); at = key[p] == null ? q : at; break;
                case 3:
                    if (key[p] != null && rows.higherKey(key[p]) != null) {
                        key[p] = rows.higherKey(key[p]);
                        at = q;
                    }
                    break;
                case 4: r[s] = row == null || q >= row.length ? null : row[q]; break;
                case 5: r[q] = row == null ? null : key[p]; break;
                case 6: r[q] = (long) p; break;
                case 7: r[p] = null; break;
                case 8: key[p] = r[s] == null ? null : rows.ceilingKey(r[s]); at = key[p] == null ? q : at; break;
                case 15: at = r[p] == null ? q : at; break;
                case 16: at = r[p] != null ? q : at; break;
                case 17: r[s] = r[p] == null || r[q] == null ? null : Long.valueOf(r[p] + r[q]); break;
                case 18:
                    if (results.size() == 64) {
                        return 2;
                    }
                    results.add(java.util.Arrays.copyOfRange(r, p, p + q));
                    break;
                case 19: at = p; break;
                case 20:
                    if (r[s] == null || rows.containsKey(r[s]) || full()) {
                        at = q;
                    } else {
                        rows.put(r[s], java.util.Arrays.copyOfRange(r, s + 1, s + 1 + widths.get(open[p])));
                    }
                    break;
                case 21:
                    if (row != null) {
                        rows.remove(key[p]);
                    }
                    break;
                default: at = r[p] != null && r[s] != null && truth(i[0] - 9, r[p], r[s]) ? q : at; break;
            }
        }
        return 0;
    }

    private Long found(int i, int k) {
        if (i < 0 || i >= results.size() || k < 0 || k >= results.get(i).length) {
            throw new IndexOutOfBoundsException();
        }
        return results.get(i)[k];
    }

    public long result(int i, int k) {
        if (i == -1) {
            return results.size();
        }
        if (k == -1 && i >= 0 && i < results.size()) {
            return results.get(i).length;
        }
        Long v = found(i, k);
        return v == null ? 0 : v;
    }

    public boolean wasNull(int i, int k) {
        return found(i, k) == null;
    }

    public boolean ask(int t, int u) {
        if (!isTable(t) || u != -1 && !isTable(u)) {
            return false;
        }
        asked = u == -1 ? new int[] {t} : new int[] {t, u};
        outputs.clear();
        conditions.clear();
        joined = null;
        return true;
    }

    private boolean isColumn(int cursor, int k) {
        return asked != null && cursor >= 0 && cursor < asked.length && k >= -1 && k < widths.get(asked[cursor]);
    }

    public boolean output(int cursor, int k) {
        return outputs.size() < 4 && isColumn(cursor, k) && outputs.add(new int[] {cursor, k});
    }

    public boolean condition(int cursor, int k, int comparison, int number) {
        return conditions.size() < 4 && isColumn(cursor, k) && comparison >= 0 && comparison <= 7
            && conditions.add(new int[] {cursor, k, comparison, number});
    }

    public boolean join(int k, int l) {
        if (!isColumn(0, k) || !isColumn(1, l)) {
            return false;
        }
        joined = new int[] {k, l};
        return true;
    }

    private static void column(List<int[]> code, int cursor, int k, int r) {
        code.add(k == -1 ? new int[] {5, cursor, r, 0} : new int[] {4, cursor, k, r});
    }

    private static void test(List<int[]> code, List<int[]> toNext, int op, int right) {
        code.add(new int[] {op, 0, code.size() + 2, right});
        int[] go = {19, 0, 0, 0};
        code.add(go);
        toNext.add(go);
    }

    /** Writes the loop of a cursor; answers the instruction that leaves it. */
    private int[] loop(List<int[]> code, int cursor) {
        List<int[]> toNext = new ArrayList<>();
        int[] leave = {2, cursor, 0, 0};
        for (int[] c : conditions) {
            if (leave[0] == 2 && c[0] == cursor && c[1] == -1 && (c[2] == 0 || c[2] == 4 || c[2] == 5)) {
                code.add(new int[] {6, c[3], 0, 0});
                leave[0] = 8;
            }
        }
        code.add(leave);
        int top = code.size();
        for (int[] c : conditions) {
            if (c[0] == cursor) {
                column(code, cursor, c[1], 0);
                if (c[2] < 6) {
                    code.add(new int[] {6, c[3], 1, 0});
                }
                test(code, toNext, 9 + c[2], c[2] < 6 ? 1 : 0);
            }
        }
        int[] inner = null;
        if (cursor == 1 && joined != null) {
            column(code, 0, joined[0], 0);
            column(code, 1, joined[1], 1);
            test(code, toNext, 9, 1);
        }
        if (cursor < asked.length - 1) {
            inner = loop(code, cursor + 1);
        } else {
            for (int i = 0; i < outputs.size(); i++) {
                column(code, outputs.get(i)[0], outputs.get(i)[1], 2 + i);
            }
            code.add(new int[] {18, 2, outputs.size(), 0});
        }
        for (int[] go : toNext) {
            go[1] = code.size();
        }
        if (inner != null) {
            inner[2] = code.size();
        }
        code.add(new int[] {3, cursor, top, 0});
        return leave;
    }

    public int compile() {
        if (asked == null || outputs.isEmpty()) {
            throw new IllegalStateException();
        }
        List<int[]> code = new ArrayList<>();
        for (int c = 0; c < asked.length; c++) {
            code.add(new int[] {1, c, asked[c], 0});
        }
        int[] leave = loop(code, 0);
        leave[2] = code.size();
        code.add(new int[] {0, 0, 0, 0});
        program = code;
        return code.size();
    }

    /** The rows that the question asks for, found without a program; at most 64, as a run gives no more. */
    List<Long[]> askedRows() {
        List<Long[]> rows = new ArrayList<>();
        for (Long first : tables.get(asked[0]).keySet()) {
            if (asked.length == 1) {
                askedRow(rows, first, null);
                continue;
            }
            for (Long second : tables.get(asked[1]).keySet()) {
                askedRow(rows, first, second);
            }
        }
        return rows;
    }

    private Long at(int cursor, int k, Long first, Long second) {
        Long key = cursor == 0 ? first : second;
        return k == -1 ? key : tables.get(asked[cursor]).get(key)[k];
    }

    private void askedRow(List<Long[]> rows, Long first, Long second) {
        for (int[] c : conditions) {
            Long v = at(c[0], c[1], first, second);
            boolean holds = c[2] == 6 ? v == null : c[2] == 7 ? v != null : v != null && truth(c[2], v, c[3]);
            if (!holds) {
                return;
            }
        }
        if (joined != null) {
            Long a = at(0, joined[0], first, second);
            Long b = at(1, joined[1], first, second);
            if (a == null || b == null || !a.equals(b)) {
                return;
            }
        }
        Long[] row = new Long[outputs.size()];
        for (int i = 0; i < row.length; i++) {
            row[i] = at(outputs.get(i)[0], outputs.get(i)[1], first, second);
        }
        if (rows.size() < 64) {
            rows.add(row);
        }
    }
}
