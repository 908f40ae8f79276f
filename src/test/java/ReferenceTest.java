import java.lang.reflect.InvocationTargetException;
import java.lang.reflect.Method;
import java.util.Arrays;
import java.util.HashMap;
import java.util.List;
import java.util.Map;
import java.util.Random;
import java.util.TreeMap;

/**
 * Promises 1 to 20: runs of up to 512 calls, each told to a TableMachine and to the Reference. The
 * numbers come from fixed seeds, so that every time it runs it makes the same calls.
 */
public final class ReferenceTest {
    private static final int RUNS = 4000;
    private static final Expect expect = new Expect();
    private static final Map<String, Method[]> methods = new HashMap<>();
    // How often an answer was seen, so that the test can't become one that comes to nothing.
    private static final TreeMap<String, Integer> seen = new TreeMap<>();

    private final Random random;
    private final TableMachine x = new TableMachine();
    private final Reference y = new Reference();
    private final StringBuilder told = new StringBuilder();
    private int calls = 0;
    private boolean wrong = false;

    private ReferenceTest(long seed) {
        random = new Random(seed);
        told.append("seed ").append(seed);
    }

    public static void main(String[] args) throws ReflectiveOperationException {
        for (Method m : TableMachine.class.getDeclaredMethods()) {
            if (java.lang.reflect.Modifier.isPublic(m.getModifiers())) {
                methods.put(m.getName(), new Method[] {m, Reference.class.getMethod(m.getName(), m.getParameterTypes())});
            }
        }
        expect.is(19, methods.size(), "methods of the face");
        for (int seed = 0; seed < RUNS; seed++) {
            new ReferenceTest(seed).play();
        }
        for (String what : List.of("run 0", "run 1", "run 2", "run 3", "run IllegalArgumentException", "insert false",
            "insert IllegalStateException", "add IllegalStateException", "compile IllegalStateException", "delete true",
            "next NoSuchElementException", "value NoSuchElementException", "wasNull true", "wasNull false", "join true",
            "question with rows", "question without rows", "answer asked for")) {
            expect.yes(seen.getOrDefault(what, 0) >= 20, "seen 20 times: " + what);
        }
        expect.end();
    }

    private static void saw(String what) {
        seen.merge(what, 1, Integer::sum);
    }

    private static Object answer(Object object, Method method, Object[] args) {
        try {
            return method.invoke(object, args);
        } catch (InvocationTargetException e) {
            return e.getCause().getClass().getSimpleName();
        } catch (IllegalAccessException e) {
            throw new AssertionError(e);
        }
    }

    private Object call(String name, Object... args) {
        if (wrong || calls == 512) {
            return null;
        }
        calls++;
        Method[] both = methods.get(name);
        Object got = answer(x, both[0], args);
        Object due = answer(y, both[1], args);
        String text = name + Arrays.toString(args);
        told.append("; ").append(text);
        wrong = !java.util.Objects.equals(got, due);
        expect.answers(due, got, wrong ? told.toString() : text);
        if (!name.equals("result") && !name.equals("code") && !name.equals("value") && !name.equals("next")) {
            saw(name + " " + due);
        } else if (due instanceof String) {
            saw(name + " " + due);
        }
        return due;
    }

    private void play() {
        int kind = random.nextInt(4);
        int tables = 1 + random.nextInt(3);
        for (int t = 0; t < tables; t++) {
            call("table", 1 + random.nextInt(4));
        }
        if (random.nextInt(3) == 0) {
            fill(80 + random.nextInt(20), tables);
        } else {
            fill(random.nextInt(20), tables);
        }
        for (int turn = 0; turn < 60 && !wrong; turn++) {
            switch (random.nextInt(4) == 0 ? random.nextInt(4) : kind) {
                case 0: handleRows(); break;
                case 1: program(); break;
                case 2: question(); break;
                default: anything(); break;
            }
        }
    }

    private void fill(int rows, int tables) {
        for (int i = 0; i < rows; i++) {
            call("set", random.nextInt(4), random.nextInt(3) != 0, number());
            call("insert", random.nextInt(tables), random.nextInt(6) == 0 ? number() : (long) random.nextInt(200));
        }
    }

    private long number() {
        switch (random.nextInt(8)) {
            case 0: return Long.MAX_VALUE - random.nextInt(2);
            case 1: return Long.MIN_VALUE + random.nextInt(2);
            case 2: return ((long) random.nextInt(3) << 32) + random.nextInt(3);
            default: return random.nextInt(11) - 5;
        }
    }

    private int table() {
        return random.nextInt(12) == 0 ? random.nextInt(5) - 1 : random.nextInt(3);
    }

    private int small(int size) {
        return random.nextInt(25) == 0 ? random.nextInt(size + 4) - 2 : random.nextInt(size);
    }

    private long key() {
        return random.nextInt(4) == 0 ? random.nextInt(200) : number();
    }

    private void handleRows() {
        switch (random.nextInt(8)) {
            case 0: call("set", small(4), random.nextInt(3) != 0, number()); break;
            case 1: call("insert", table(), key()); break;
            case 2: call("delete", table(), key()); break;
            case 3: call("count", table()); break;
            case 4: call("next", table(), key(), random.nextBoolean()); break;
            case 5: call("value", table(), key(), small(4)); break;
            case 6: call("isNull", table(), key(), small(4)); break;
            default: lookAtRow(); break;
        }
    }

    private void lookAtRow() {
        int t = table();
        if (call("next", t, key(), random.nextBoolean()) instanceof Long key) {
            for (int k = 0; k < 4; k++) {
                call("value", t, key, k);
                call("isNull", t, key, k);
            }
        }
    }

    private void addSome(int size) {
        int op = random.nextInt(60) == 0 ? random.nextInt(30) - 4 : random.nextInt(22);
        int p = op == 6 ? random.nextInt(9) - 4 : op == 19 ? small(size + 1) : op >= 9 && op <= 18 || op == 7 ? small(5) : small(2);
        int q = op == 1 ? small(2) : op == 18 ? 1 + small(4) : op >= 2 && op <= 3 || op == 8 || op >= 9 && op <= 16 || op == 20 ? small(size + 1)
            : small(4);
        call("add", op, p, q, random.nextInt(20) == 0 ? small(16) : small(4));
    }

    private void program() {
        if (random.nextInt(3) != 0) {
            call("wipe");
        }
        int size = random.nextInt(12) == 0 ? 62 : 3 + random.nextInt(15);
        for (int c = 0; c < 2; c++) {
            if (random.nextInt(4) != 0) {
                call("add", 1, c, random.nextInt(2), 0);
                call("add", 2, c, small(size), 0);
            }
        }
        for (int i = 0; i < size; i++) {
            addSome(size);
        }
        run();
        call("count", 0);
        call("count", 1);
        lookAtRow();
    }

    private int fuel() {
        switch (random.nextInt(10)) {
            case 0: return random.nextInt(5) - 1;
            case 1: return 3998 + random.nextInt(4);
            case 2: return 4000;
            default: return random.nextInt(1000);
        }
    }

    private void run() {
        Object outcome = call("run", fuel());
        if (!(outcome instanceof Integer)) {
            return;
        }
        Object rows = call("result", -1, random.nextInt());
        int last = rows instanceof Long n ? n.intValue() : 0;
        for (int i : new int[] {0, last - 1, random.nextInt(last + 1)}) {
            call("result", i, -1);
            for (int k = 0; k < 4; k++) {
                call("result", i, k);
                call("wasNull", i, k);
            }
        }
    }

    private void askOne() {
        if (random.nextInt(3) != 0) {
            call("ask", table(), random.nextInt(2) == 0 ? -1 : table());
        }
        for (int i = random.nextInt(5); i >= 0; i--) {
            call("output", small(2), small(5) - 1);
        }
        for (int i = random.nextInt(4); i > 0; i--) {
            call("condition", small(2), random.nextBoolean() ? -1 : small(5) - 1, small(8), random.nextInt(11) - 5);
        }
        if (random.nextInt(2) == 0) {
            call("join", small(5) - 1, small(5) - 1);
        }
    }

    private void question() {
        askOne();
        Object size = call("compile");
        if (size instanceof Integer n) {
            for (int i = 0; i < 6; i++) {
                call("code", small(n), small(4));
            }
            everyWord(n);
            run();
            answersAreThoseAsked();
        }
    }

    private void everyWord(int size) {
        for (int k = 0; k < size; k++) {
            for (int w = 0; w < 4; w++) {
                call("code", k, w);
            }
        }
    }

    /** What both objects answer alike is compared with the rows found without a program, as far as the 512 calls go. */
    private void answersAreThoseAsked() {
        if (!Integer.valueOf(0).equals(call("run", 4000))) {
            return;
        }
        List<Long[]> due = y.askedRows();
        saw(due.isEmpty() ? "question without rows" : "question with rows");
        asked((long) due.size(), call("result", -1, 0), "rows asked for");
        for (int i = 0; i < due.size(); i++) {
            for (int k = 0; k < due.get(i).length; k++) {
                Long v = due.get(i)[k];
                asked(v == null, call("wasNull", i, k), "row " + i + " asked for, whether NULL");
                asked(v == null ? 0 : v, call("result", i, k), "row " + i + " asked for");
            }
        }
    }

    private void asked(Object due, Object answer, String what) {
        if (answer != null) {
            saw("answer asked for");
            expect.answers(due, answer, due.equals(answer) ? what : told + "; " + what);
        }
    }

    private void anything() {
        switch (random.nextInt(10)) {
            case 0: call("table", small(6)); break;
            case 1: call("code", small(60), small(4)); break;
            case 2: call("result", small(64), small(4)); break;
            case 3: call("wasNull", small(64), small(4)); break;
            case 4: call("compile"); break;
            case 5: askOne(); break;
            case 6: run(); break;
            case 7: addSome(60); break;
            case 8: call("wipe"); break;
            default: handleRows(); break;
        }
    }
}
