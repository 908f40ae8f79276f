import java.lang.reflect.InvocationTargetException;
import java.lang.reflect.Method;
import java.lang.reflect.Modifier;
import java.util.HashMap;
import java.util.List;
import java.util.Map;

/**
 * A TableMachine that is told its calls as text and answers in text, so that a test reads as the run of
 * calls that it is: "insert(0, MIN)" answers "true", "table(0)" answers "IAE". It counts the calls, as
 * nothing is promised of an object after 512 of them.
 */
final class Subject {
    static final List<String> OPS = List.of("HALT", "OPEN", "REWIND", "NEXT", "COLUMN", "ROWID", "INTEGER", "NULL", "SEEK",
        "EQ", "NE", "LT", "LE", "GT", "GE", "ISNULL", "NOTNULL", "ADD", "RESULT", "GOTO", "INSERT", "DELETE");
    // How many of p, q and s each of them has.
    static final int[] OPERANDS = {0, 2, 2, 2, 3, 2, 2, 1, 3, 3, 3, 3, 3, 3, 3, 2, 2, 3, 2, 1, 3, 1};

    private static final Map<String, String> SHORT = Map.of("IllegalArgumentException", "IAE", "IllegalStateException", "ISE",
        "IndexOutOfBoundsException", "IOOBE", "NoSuchElementException", "NSEE");
    private static final Map<String, Method> FACE = new HashMap<>();

    static {
        for (Method m : TableMachine.class.getDeclaredMethods()) {
            if (Modifier.isPublic(m.getModifiers())) {
                FACE.put(m.getName(), m);
            }
        }
    }

    private final TableMachine x = new TableMachine();
    private int calls = 0;

    int calls() {
        return calls;
    }

    /** A call of the face, or one of the texts that stand for many calls. */
    String answer(String text) {
        if (text.startsWith("program ")) {
            return program(text.substring("program ".length()));
        }
        int open = text.indexOf('(');
        String name = open < 0 ? text : text.substring(0, open);
        String inside = open < 0 ? "" : text.substring(open + 1, text.lastIndexOf(')')).trim();
        String[] args = inside.isEmpty() ? new String[0] : inside.split(" *, *");
        switch (name) {
            case "results": return results();
            case "listing": return listing();
            case "keys": return rows(args[0], false);
            case "rows": return rows(args[0], true);
            case "fill": return fill(args[0], Long.parseLong(args[1]), Long.parseLong(args[2]));
            default: return call(name, args);
        }
    }

    private String call(String name, String... args) {
        Method m = FACE.get(name);
        Class<?>[] types = m.getParameterTypes();
        if (types.length != args.length) {
            throw new AssertionError("the test calls " + name + " with " + args.length + " arguments");
        }
        Object[] given = new Object[args.length];
        for (int i = 0; i < args.length; i++) {
            given[i] = argument(types[i], args[i]);
        }
        calls++;
        try {
            Object got = m.invoke(x, given);
            return got == null ? "done" : got.toString();
        } catch (InvocationTargetException e) {
            String thrown = e.getCause().getClass().getSimpleName();
            return SHORT.getOrDefault(thrown, thrown);
        } catch (IllegalAccessException e) {
            throw new AssertionError(e);
        }
    }

    private static Object argument(Class<?> type, String word) {
        if (type == boolean.class) {
            return word.equals("true");
        }
        boolean wide = type == long.class;
        if (word.startsWith("MIN") || word.startsWith("MAX")) {
            long base = word.startsWith("MIN") ? (wide ? Long.MIN_VALUE : Integer.MIN_VALUE) : (wide ? Long.MAX_VALUE : Integer.MAX_VALUE);
            long number = word.length() == 3 ? base : base + Long.parseLong(word.substring(3));
            return wide ? (Object) number : (Object) Math.toIntExact(number);
        }
        int op = OPS.indexOf(word);
        if (op >= 0) {
            return op;
        }
        String digits = word.equals("NONE") ? "-1" : word;
        return wide ? (Object) Long.valueOf(digits) : (Object) Integer.valueOf(digits);
    }

    /** In place of the old program: "OPEN 0 0, REWIND 0 2". */
    private String program(String text) {
        call("wipe");
        String[] instructions = text.split(",");
        for (int k = 0; k < instructions.length; k++) {
            String[] words = instructions[k].trim().split(" +");
            if (words.length != 1 + OPERANDS[OPS.indexOf(words[0])]) {
                throw new AssertionError("the test has a wrong instruction: " + instructions[k]);
            }
            String got = call("add", words[0], word(words, 1), word(words, 2), word(words, 3));
            if (!got.equals(String.valueOf(k))) {
                return "the instruction" + instructions[k] + " answers " + got;
            }
        }
        return "done";
    }

    private static String word(String[] words, int i) {
        return i < words.length ? words[i] : "0";
    }

    private String results() {
        StringBuilder text = new StringBuilder();
        long rows = Long.parseLong(call("result", "-1", "0"));
        for (long i = 0; i < rows; i++) {
            long width = Long.parseLong(call("result", "" + i, "-1"));
            text.append(i == 0 ? "[" : " [");
            for (long k = 0; k < width; k++) {
                text.append(k == 0 ? "" : " ").append(valueOrNull(call("wasNull", "" + i, "" + k), call("result", "" + i, "" + k)));
            }
            text.append("]");
        }
        return rows == 0 ? "none" : text.toString();
    }

    /** A NULL that is not told as 0 is told apart from one that is. */
    private static String valueOrNull(String isNull, String number) {
        if (!isNull.equals("true")) {
            return number;
        }
        return number.equals("0") ? "NULL" : "NULL told as " + number;
    }

    private String listing() {
        StringBuilder text = new StringBuilder();
        for (int k = 0; k <= 60; k++) {
            String first = call("code", "" + k, "0");
            if (first.equals("IOOBE")) {
                return k == 0 ? "none" : text.toString();
            }
            int op = Integer.parseInt(first);
            text.append(k == 0 ? "" : ", ").append(OPS.get(op));
            for (int w = 1; w <= 3; w++) {
                String operand = call("code", "" + k, "" + w);
                if (w <= OPERANDS[op] || !operand.equals("0")) {
                    text.append(" ").append(operand);
                }
            }
        }
        return text.append(" and no end").toString();
    }

    private String rows(String table, boolean withValues) {
        StringBuilder text = new StringBuilder();
        String key = call("next", table, "MIN", "false");
        if (key.equals("IAE")) {
            return key;
        }
        for (int i = 0; i <= 90 && !key.equals("NSEE"); i++) {
            text.append(i == 0 ? "" : " ").append(key);
            if (withValues) {
                text.append(":[").append(values(table, key)).append("]");
            }
            key = call("next", table, key, "true");
        }
        return text.length() == 0 ? "none" : text.toString();
    }

    private String values(String table, String key) {
        StringBuilder text = new StringBuilder();
        for (int k = 0; k < 5; k++) {
            String number = call("value", table, key, "" + k);
            if (number.equals("IAE")) {
                return text.toString();
            }
            text.append(k == 0 ? "" : " ").append(valueOrNull(call("isNull", table, key, "" + k), number));
        }
        return text.append(" and no end").toString();
    }

    private String fill(String table, long from, long to) {
        for (long key = from; key <= to; key++) {
            String got = call("insert", table, "" + key);
            if (!got.equals("true")) {
                return "insert of " + key + " answers " + got;
            }
        }
        return "done";
    }
}
