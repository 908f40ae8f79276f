import java.util.ArrayList;
import java.util.List;

/** A question together with the program that is due for it, written with labels for what it goes to. */
final class Combination {
    private final int tables;
    private final List<String> question = new ArrayList<>();
    private int outputs = 1;
    private boolean conditions = false;
    private boolean firstSeeks = false;
    private boolean secondSeeks = false;
    private boolean joined = false;

    Combination(int tables) {
        this.tables = tables;
        question.addAll(List.of("table(2)", "table(4)", tables == 1 ? "ask(0, NONE)" : "ask(0, 1)"));
    }

    /** Four of them, by turns on both cursors if there are two; one on the key of each asks for a SEEK or does not. */
    Combination conditions(boolean first, boolean second) {
        conditions = true;
        firstSeeks = first;
        secondSeeks = second;
        question.add("condition(0, 1, 6, 0)");
        question.add(tables == 1 ? "condition(0, 0, 1, 32)" : "condition(1, 3, 1, 32)");
        question.add("condition(0, -1, " + (first ? 5 : 2) + ", 33)");
        question.add(tables == 1 ? "condition(0, 1, 7, 34)" : "condition(1, -1, " + (second ? 4 : 3) + ", 34)");
        return this;
    }

    Combination join(boolean wanted) {
        joined = wanted;
        if (wanted) {
            question.add("join(1, -1)");
        }
        return this;
    }

    /** By turns of both cursors if there are two; the third one is a key. */
    Combination outputs(int n) {
        outputs = n;
        for (int i = 0; i < n; i++) {
            question.add("output(" + outputCursor(i) + ", " + (i == 2 ? -1 : 1) + ")");
        }
        return this;
    }

    private int outputCursor(int i) {
        return tables == 1 ? 0 : 1 - i % 2;
    }

    String question() {
        return String.join("; ", question);
    }

    String[] program() {
        List<String> code = new ArrayList<>(List.of("OPEN 0 0"));
        if (tables == 2) {
            code.add("OPEN 1 1");
        }
        addStart(code, 0, firstSeeks, "33", "@end");
        code.add("top0:");
        addFirstConditions(code);
        if (tables == 2) {
            addStart(code, 1, secondSeeks, "34", "@next0");
            code.add("top1:");
            addSecondConditions(code);
            addOutputs(code);
            code.addAll(List.of("next1:", "NEXT 1 @top1"));
        } else {
            addOutputs(code);
        }
        code.addAll(List.of("next0:", "NEXT 0 @top0", "end:", "HALT"));
        return numbered(code);
    }

    private static void addStart(List<String> code, int cursor, boolean seeks, String number, String exit) {
        if (seeks) {
            code.addAll(List.of("INTEGER " + number + " 0", "SEEK " + cursor + " " + exit + " 0"));
        } else {
            code.add("REWIND " + cursor + " " + exit);
        }
    }

    private void addFirstConditions(List<String> code) {
        if (!conditions) {
            return;
        }
        code.addAll(List.of("COLUMN 0 1 0", "ISNULL 0 @behind", "GOTO @next0"));
        if (tables == 1) {
            code.addAll(List.of("COLUMN 0 0 0", "INTEGER 32 1", "NE 0 @behind 1", "GOTO @next0"));
        }
        code.addAll(List.of("ROWID 0 0", "INTEGER 33 1", (firstSeeks ? "GE" : "LT") + " 0 @behind 1", "GOTO @next0"));
        if (tables == 1) {
            code.addAll(List.of("COLUMN 0 1 0", "NOTNULL 0 @behind", "GOTO @next0"));
        }
    }

    private void addSecondConditions(List<String> code) {
        if (conditions) {
            code.addAll(List.of("COLUMN 1 3 0", "INTEGER 32 1", "NE 0 @behind 1", "GOTO @next1"));
            code.addAll(List.of("ROWID 1 0", "INTEGER 34 1", (secondSeeks ? "GT" : "LE") + " 0 @behind 1", "GOTO @next1"));
        }
        if (joined) {
            code.addAll(List.of("COLUMN 0 1 0", "ROWID 1 1", "EQ 0 @behind 1", "GOTO @next1"));
        }
    }

    private void addOutputs(List<String> code) {
        for (int i = 0; i < outputs; i++) {
            int r = 2 + i;
            code.add(i == 2 ? "ROWID " + outputCursor(i) + " " + r : "COLUMN " + outputCursor(i) + " 1 " + r);
        }
        code.add("RESULT 2 " + outputs);
    }

    /** Puts numbers for the labels; @behind is the instruction behind the next. */
    private static String[] numbered(List<String> code) {
        List<String> program = new ArrayList<>();
        List<String> labels = new ArrayList<>();
        for (String line : code) {
            if (line.endsWith(":")) {
                labels.add("@" + line.replace(":", "") + " " + program.size());
            } else {
                program.add(line.replace("@behind", "" + (program.size() + 2)));
            }
        }
        for (String label : labels) {
            String[] parts = label.split(" ");
            program.replaceAll(instruction -> instruction.replace(parts[0], parts[1]));
        }
        return program.toArray(new String[0]);
    }
}
