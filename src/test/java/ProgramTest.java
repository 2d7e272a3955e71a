/** Promises 1, 2, 3, 5 and 6: a new object, add, clear, size, instruction. */
public final class ProgramTest {
    private static final Check CHECK = new Check("ProgramTest");

    private ProgramTest() {
    }

    public static void main(String[] args) {
        newObject();
        everyKindIsWritten();
        whatIsNotNamedIsZero();
        registersAndTargetsHaveEdges();
        kindsHaveEdges();
        atMostTwoHundred();
        thriftyProgramsTakeNoMore();
        clearing();
        askingForInstructions();
        CHECK.end();
    }

    private static void newObject() {
        ThriftyStores x = new ThriftyStores();
        CHECK.due("NONE", ThriftyStores.NONE, -1);
        CHECK.due("size()", x.size(), 0);
        CHECK.due("steps()", x.steps(), 0);
        CHECK.due("printed()", x.printed(), 0);
        CHECK.due("kept()", x.kept(), 0);
        CHECK.noIndex("print(0)", () -> x.print(0));
        CHECK.noIndex("cell(0, 0, 0)", () -> x.cell(0, 0, 0));
        CHECK.noState("rounds()", x::rounds);
        CHECK.noState("run(false, 1)", () -> x.run(false, 1));
        CHECK.noState("free(0, 0)", () -> Check.bit(x.free(0, 0)));
        CHECK.due("clear()", x.clear(), 0);
    }

    private static void everyKindIsWritten() {
        int[][] rows = {
            {0, 15, Integer.MIN_VALUE, 0}, {0, 0, Integer.MAX_VALUE, 0}, {1, 15, 15, 0}, {2, 1, 2, 3}, {3, 15, 15, 15},
            {4, 0, 0, 0}, {5, 4, 5, 6}, {6, 7, 8, 9}, {7, 10, 11, 12}, {8, 1, 1, 0}, {8, 15, 16, 1}, {9, 15, 15, 0},
            {10, 15, 15, 0}, {11, 15, 0, 0}, {12, 0, 0, 0}, {12, 200, 0, 0}, {13, 15, 200, 0}, {13, 0, 0, 0},
            {14, 0, 0, 0}, {15, 0, 0, 0}};
        ThriftyStores x = new ThriftyStores();
        for (int i = 0; i < rows.length; i++) {
            CHECK.due("add of row " + i, x.add(rows[i][0], rows[i][1], rows[i][2], rows[i][3]), i);
            CHECK.due("size()", x.size(), i + 1);
        }
        for (int i = 0; i < rows.length; i++) {
            for (int what = 0; what < 4; what++) {
                CHECK.due("instruction(" + i + ", " + what + ", true)", x.instruction(i, what, true), rows[i][what]);
            }
        }
    }

    private static void whatIsNotNamedIsZero() {
        int[] named = {2, 2, 3, 3, 3, 3, 3, 3, 3, 2, 2, 1, 1, 2, 0, 0};
        for (int kind = 0; kind < named.length; kind++) {
            if (named[kind] < 1) {
                refusesToAdd(kind, 1, 0, 0);
                refusesToAdd(kind, -1, 0, 0);
            }
            if (named[kind] < 2) {
                refusesToAdd(kind, 0, 1, 0);
                refusesToAdd(kind, 0, -1, 0);
            }
            if (named[kind] < 3) {
                refusesToAdd(kind, 0, 0, 1);
                refusesToAdd(kind, 0, 0, -1);
            }
        }
    }

    private static void registersAndTargetsHaveEdges() {
        int[] registersIn = {1, 2, 3, 3, 3, 3, 3, 3, 1, 2, 2, 1, 0, 1, 0, 0};
        int[] offEdge = {-1, 16, Integer.MIN_VALUE, Integer.MAX_VALUE};
        for (int kind = 0; kind < registersIn.length; kind++) {
            int b = kind == Kinds.MAKE ? 1 : 0;
            for (int r : offEdge) {
                if (registersIn[kind] > 0) {
                    refusesToAdd(kind, r, b, 0);
                }
                if (registersIn[kind] > 1) {
                    refusesToAdd(kind, 0, r, 0);
                }
                if (registersIn[kind] > 2) {
                    refusesToAdd(kind, 0, 0, r);
                }
            }
        }
        refusesToAdd(Kinds.JUMP, 201, 0, 0);
        refusesToAdd(Kinds.JUMP, -1, 0, 0);
        refusesToAdd(Kinds.IF, 0, 201, 0);
        refusesToAdd(Kinds.IF, 0, -1, 0);
        refusesToAdd(Kinds.MAKE, 0, 0, 0);
        refusesToAdd(Kinds.MAKE, 0, 17, 0);
        refusesToAdd(Kinds.MAKE, 0, 1, 2);
        refusesToAdd(Kinds.MAKE, 0, 1, -1);
    }

    private static void kindsHaveEdges() {
        refusesToAdd(-1, 0, 0, 0);
        refusesToAdd(16, 0, 0, 0);
        refusesToAdd(Integer.MIN_VALUE, 0, 0, 0);
        refusesToAdd(Integer.MAX_VALUE, 0, 0, 0);
    }

    private static void refusesToAdd(int kind, int a, int b, int c) {
        ThriftyStores x = new ThriftyStores();
        String call = "add(" + kind + ", " + a + ", " + b + ", " + c + ")";
        CHECK.noArgument(call, () -> x.add(kind, a, b, c));
        CHECK.due("size() behind " + call, x.size(), 0);
    }

    private static void atMostTwoHundred() {
        ThriftyStores x = new ThriftyStores();
        for (int i = 0; i < 200; i++) {
            CHECK.due("add of " + i, x.add(Kinds.NUMBER, 1, i, 0), i);
        }
        CHECK.noState("add of the 201st", () -> x.add(Kinds.NOTHING, 0, 0, 0));
        CHECK.noArgument("a wrong add of the 201st", () -> x.add(Kinds.NOTHING, 1, 0, 0));
        CHECK.due("size()", x.size(), 200);
        CHECK.due("instruction(199, 2, true)", x.instruction(199, 2, true), 199);
        CHECK.noIndex("instruction(200, 0, true)", () -> x.instruction(200, 0, true));
        CHECK.due("clear()", x.clear(), 200);
        CHECK.due("add behind clear", x.add(Kinds.HALT, 0, 0, 0), 0);
    }

    private static void thriftyProgramsTakeNoMore() {
        ThriftyStores x = Kinds.program(Kinds.in(Kinds.HALT));
        x.thrift();
        CHECK.noState("add behind thrift", () -> x.add(Kinds.HALT, 0, 0, 0));
        CHECK.noArgument("a wrong add behind thrift", () -> x.add(99, 0, 0, 0));
        CHECK.due("size()", x.size(), 1);
    }

    private static void clearing() {
        ThriftyStores x = Kinds.program(Kinds.in(Kinds.MAKE, 1, 2, 1), Kinds.in(Kinds.NUMBER, 2, 8),
                Kinds.in(Kinds.STORE, 1, 2), Kinds.in(Kinds.PRINT, 2));
        x.thrift();
        x.run(false, 100);
        CHECK.due("clear()", x.clear(), 4);
        CHECK.due("size()", x.size(), 0);
        CHECK.noState("rounds()", x::rounds);
        CHECK.noIndex("fate(0)", () -> x.fate(0));
        CHECK.noIndex("instruction(0, 0, true)", () -> x.instruction(0, 0, true));
        CHECK.noState("run(false, 100)", () -> x.run(false, 100));
        lastRunIsStillTold(x);
        CHECK.due("add behind clear", x.add(Kinds.NOTHING, 0, 0, 0), 0);
        CHECK.noState("fate(0)", () -> x.fate(0));
        lastRunIsStillTold(x);
        CHECK.due("thrift() of the new program", x.thrift(), 0);
        CHECK.due("instruction(0, 0, false)", x.instruction(0, 0, false), Kinds.NOTHING);
        CHECK.due("clear() again", x.clear(), 1);
        CHECK.due("clear() of nothing", x.clear(), 0);
    }

    private static void lastRunIsStillTold(ThriftyStores x) {
        CHECK.due("steps() behind clear", x.steps(), 4);
        CHECK.due("printed() behind clear", x.printed(), 1);
        CHECK.due("print(0) behind clear", x.print(0), 8);
        CHECK.due("kept() behind clear", x.kept(), 1);
        CHECK.due("cell(0, 0, 1) behind clear", x.cell(0, 0, 1), 8);
    }

    private static void askingForInstructions() {
        ThriftyStores x = Kinds.program(Kinds.in(Kinds.MAKE, 1, 1), Kinds.in(Kinds.STORE, 1, 2));
        CHECK.noIndex("instruction(-1, 0, true)", () -> x.instruction(-1, 0, true));
        CHECK.noIndex("instruction(2, 0, true)", () -> x.instruction(2, 0, true));
        CHECK.noIndex("instruction(2, 9, false)", () -> x.instruction(2, 9, false));
        CHECK.noArgument("instruction(0, -1, true)", () -> x.instruction(0, -1, true));
        CHECK.noArgument("instruction(0, 4, true)", () -> x.instruction(0, 4, true));
        CHECK.noArgument("instruction(0, 4, false)", () -> x.instruction(0, 4, false));
        CHECK.noState("instruction(0, 3, false)", () -> x.instruction(0, 3, false));
        x.thrift();
        CHECK.due("instruction(1, 0, true)", x.instruction(1, 0, true), Kinds.STORE);
        CHECK.due("instruction(1, 1, true)", x.instruction(1, 1, true), 1);
        CHECK.due("instruction(1, 2, true)", x.instruction(1, 2, true), 2);
        for (int what = 1; what < 4; what++) {
            CHECK.due("instruction(1, " + what + ", false)", x.instruction(1, what, false), 0);
        }
        CHECK.due("instruction(1, 0, false)", x.instruction(1, 0, false), Kinds.NOTHING);
        CHECK.due("instruction(0, 0, false)", x.instruction(0, 0, false), Kinds.MAKE);
        CHECK.noArgument("instruction(0, 4, false)", () -> x.instruction(0, 4, false));
    }
}
