import java.io.IOException;
import java.nio.file.Files;
import java.nio.file.Path;
import java.util.ArrayList;
import java.util.List;
import java.util.regex.Matcher;
import java.util.regex.Pattern;

/** The public face as the document's code block has it, member by member. */
final class Face {
    static final String CLASS = "public final class TableMachine {";
    static final List<String> MEMBERS = List.of(
        "public static final int NONE = -1;",
        "public TableMachine();",
        "public int table(int n) throws IllegalArgumentException, IllegalStateException;",
        "public boolean set(int k, boolean not, long v);",
        "public boolean insert(int table, long key) throws IllegalArgumentException, IllegalStateException;",
        "public boolean delete(int table, long key) throws IllegalArgumentException;",
        "public int count(int table);",
        "public long next(int table, long key, boolean above) throws IllegalArgumentException, NoSuchElementException;",
        "public long value(int table, long key, int k) throws IllegalArgumentException, NoSuchElementException;",
        "public boolean isNull(int table, long key, int k) throws IllegalArgumentException, NoSuchElementException;",
        "public int add(int op, int p, int q, int s) throws IllegalArgumentException, IllegalStateException;",
        "public void wipe();",
        "public int code(int k, int w) throws IndexOutOfBoundsException;",
        "public int run(int fuel) throws IllegalArgumentException;",
        "public long result(int i, int k) throws IndexOutOfBoundsException;",
        "public boolean wasNull(int i, int k) throws IndexOutOfBoundsException;",
        "public boolean ask(int t, int u);",
        "public boolean output(int cursor, int k);",
        "public boolean condition(int cursor, int k, int comparison, int number);",
        "public boolean join(int k, int l);",
        "public int compile() throws IllegalStateException;");

    /** A method of the face, in the parts in which it is compared. */
    record Call(String signature, String result, String name, List<String> types, List<String> thrown) {
    }

    private static final Pattern METHOD = Pattern.compile("public ((\\w+) (\\w+)\\((.*)\\))(?: throws (.*))?;");

    private Face() {
    }

    static List<Call> calls() {
        List<Call> calls = new ArrayList<>();
        for (String member : MEMBERS) {
            Matcher m = METHOD.matcher(member);
            if (m.matches()) {
                List<String> types = new ArrayList<>();
                for (String parameter : parts(m.group(4))) {
                    types.add(parameter.substring(0, parameter.indexOf(' ')));
                }
                calls.add(new Call(m.group(1), m.group(2), m.group(3), types, parts(m.group(5))));
            }
        }
        return calls;
    }

    private static List<String> parts(String list) {
        return list == null || list.isEmpty() ? List.of() : List.of(list.split(", "));
    }

    /** The lines of the document's code block between the class and its end, without the import. */
    static List<String> ofDocument(Path document) throws IOException {
        List<String> members = new ArrayList<>();
        boolean inside = false;
        for (String line : Files.readAllLines(document)) {
            if (line.equals("}")) {
                return members;
            }
            if (inside && !line.trim().startsWith("import ")) {
                members.add(line.trim());
            }
            inside = inside || line.equals(CLASS);
        }
        return members;
    }

    /** The lines in which the source declares something public, without what a body adds. */
    static List<String> ofSource(List<String> source) {
        List<String> members = new ArrayList<>();
        for (String line : source) {
            if (line.startsWith("    public ")) {
                members.add(line.trim().replaceFirst(" \\{$", ";"));
            }
        }
        return members;
    }
}
