/** Promises 10 to 12: the instructions of a program. */
public final class ProgramTest {
    private static final Expect expect = new Expect();

    // What p, q and s of the 22 instructions are; R is the register at which a row to insert begins.
    private static final String[] SHAPES = {
        "", "ct", "cj", "cj", "ckr", "cr", "vr", "r", "cjr", "rjr", "rjr", "rjr", "rjr", "rjr", "rjr",
        "rj", "rj", "rrr", "rn", "j", "cjR", "c"
    };

    public static void main(String[] args) {
        everyOperandHasItsRange();
        resultTakesOnlyRegistersThatThereAre();
        noOtherInstructions();
        sixtyInstructions();
        wipe();
        code();
        expect.end();
    }

    private static int least(char kind) {
        return kind == 'v' ? Integer.MIN_VALUE : kind == 'n' ? 1 : 0;
    }

    private static int most(char kind) {
        switch (kind) {
            case 'c': case 't': return 2;
            case 'j': return 60;
            case 'k': return 3;
            case 'r': return 15;
            case 'R': return 11;
            case 'n': return 4;
            default: return Integer.MAX_VALUE;
        }
    }

    private static int[] smallest(String shape) {
        int[] operands = {0, 0, 0};
        for (int i = 0; i < shape.length(); i++) {
            operands[i] = least(shape.charAt(i));
        }
        return operands;
    }

    private static void everyOperandHasItsRange() {
        for (int op = 0; op < SHAPES.length; op++) {
            for (int i = 0; i < 3; i++) {
                TableMachine x = new TableMachine();
                int[] a = smallest(SHAPES[op]);
                if (i >= SHAPES[op].length()) {
                    a[i] = i % 2 == 0 ? 1000 : -1000;
                    accepts(x, op, a);
                    expect.is(0, x.code(0, i + 1), "10: what " + op + " does not have is told as 0");
                    continue;
                }
                char kind = SHAPES[op].charAt(i);
                a[i] = most(kind);
                accepts(x, op, a);
                a[i] = least(kind);
                accepts(x, op, a);
                if (kind != 'v') {
                    for (int wrong : new int[] {least(kind) - 1, most(kind) + 1, Integer.MIN_VALUE, Integer.MAX_VALUE}) {
                        a[i] = wrong;
                        refuses(x, op, a);
                    }
                    expect.index(() -> x.code(2, 0), "10: what throws adds nothing");
                }
            }
        }
    }

    private static void accepts(TableMachine x, int op, int[] a) {
        String what = "(" + op + ", " + a[0] + ", " + a[1] + ", " + a[2] + ")";
        int k = x.add(op, a[0], a[1], a[2]);
        expect.is(op, x.code(k, 0), "12: the number of add" + what);
        for (int i = 0; i < 3; i++) {
            expect.is(i < SHAPES[op].length() ? a[i] : 0, x.code(k, i + 1), "12: operand " + i + " of add" + what);
        }
    }

    private static void refuses(TableMachine x, int op, int[] a) {
        String what = "(" + op + ", " + a[0] + ", " + a[1] + ", " + a[2] + ")";
        expect.argument(() -> x.add(op, a[0], a[1], a[2]), "10: add" + what);
    }

    private static void resultTakesOnlyRegistersThatThereAre() {
        TableMachine x = new TableMachine();
        for (int r = 11; r <= 15; r++) {
            for (int n = 1; n <= 4; n++) {
                int[] a = {r, n, 0};
                if (r + n - 1 <= 15) {
                    accepts(x, 18, a);
                } else {
                    refuses(x, 18, a);
                }
            }
        }
    }

    private static void noOtherInstructions() {
        TableMachine x = new TableMachine();
        for (int op : new int[] {-1, 22, 23, Integer.MIN_VALUE, Integer.MAX_VALUE}) {
            refuses(x, op, new int[] {0, 0, 0});
        }
    }

    private static void sixtyInstructions() {
        TableMachine x = new TableMachine();
        for (int k = 0; k < 60; k++) {
            expect.is(k, x.add(6, k, 0, 0), "10: instruction " + k);
        }
        expect.state(() -> x.add(0, 0, 0, 0), "10: a 61st instruction");
        expect.argument(() -> x.add(22, 0, 0, 0), "10: a 61st instruction that there is not");
        expect.argument(() -> x.add(7, 16, 0, 0), "10: a 61st instruction with a wrong register");
        expect.is(59, x.code(59, 1), "12: the last instruction");
        expect.index(() -> x.code(60, 0), "12: behind the last instruction");
    }

    private static void wipe() {
        TableMachine x = new TableMachine();
        x.table(1);
        x.insert(0, 5);
        x.add(6, 1, 0, 0);
        x.add(18, 0, 1, 0);
        x.run(10);
        x.wipe();
        expect.index(() -> x.code(0, 0), "11: no instruction is left");
        expect.is(1, x.result(-1, 0), "11: RESULT rows stay");
        expect.is(1, x.count(0), "11: tables stay");
        expect.is(0, x.add(7, 3, 0, 0), "11: the first number again");
        expect.index(() -> x.code(1, 0), "11: old instructions do not come back");
        x.wipe();
        x.wipe();
        expect.is(0, x.run(0), "11: nothing to do");
    }

    private static void code() {
        TableMachine x = new TableMachine();
        x.add(17, 3, 4, 5);
        x.add(6, -7, 9, 2);
        int[] due = {17, 3, 4, 5, 6, -7, 9, 0};
        for (int i = 0; i < 8; i++) {
            expect.is(due[i], x.code(i / 4, i % 4), "12: code(" + i / 4 + ", " + i % 4 + ")");
        }
        int[][] wrong = {{-1, 0}, {2, 0}, {0, -1}, {0, 4}, {1, 4}, {Integer.MAX_VALUE, 0}, {0, Integer.MIN_VALUE}};
        for (int[] kw : wrong) {
            expect.index(() -> x.code(kw[0], kw[1]), "12: code(" + kw[0] + ", " + kw[1] + ")");
        }
    }
}
