/** Promises 2, 3, 5 and 6: add, clear, size, instruction; their bounds have tests of their own. */
public final class ProgramTest {
    private static final Check CHECK = new Check("ProgramTest");

    private ProgramTest() {
    }

    public static void main(String[] args) {
        everyKindIsWritten();
        clearing();
        askingForInstructions();
        CHECK.end();
    }

    private static void everyKindIsWritten() {
        int[][] rows = {
            {0, 15, Integer.MIN_VALUE, 0}, {0, 0, Integer.MAX_VALUE, 0}, {1, 15, 15, 0}, {2, 1, 2, 3}, {3, 15, 15, 15},
            {4, 0, 0, 0}, {5, 4, 5, 6}, {6, 7, 8, 9}, {7, 10, 11, 12}, {8, 1, 1, 0}, {8, 15, 16, 1}, {9, 15, 15, 0},
            {10, 15, 15, 0}, {11, 15, 0, 0}, {12, 0, 0, 0}, {12, 200, 0, 0}, {13, 15, 200, 0}, {13, 0, 0, 0},
            {14, 0, 0, 0}, {15, 0, 0, 0}};
        ThriftyStores x = new ThriftyStores();
        for (int i = 0; i < rows.length; i++) {
            CHECK.due("add of row " + i, x.add(rows[i][0], rows[i][1], rows[i][2], rows[i][3]), i);
            CHECK.due("size()", x.size(), i + 1);
        }
        for (int i = 0; i < rows.length; i++) {
            for (int what = 0; what < 4; what++) {
                CHECK.due("instruction(" + i + ", " + what + ", true)", x.instruction(i, what, true), rows[i][what]);
            }
        }
    }

    private static void clearing() {
        ThriftyStores x = Kinds.program(Kinds.in(Kinds.MAKE, 1, 2, 1), Kinds.in(Kinds.NUMBER, 2, 8),
                Kinds.in(Kinds.STORE, 1, 2), Kinds.in(Kinds.PRINT, 2));
        x.thrift();
        x.run(false, 100);
        CHECK.due("clear()", x.clear(), 4);
        CHECK.due("size()", x.size(), 0);
        CHECK.noState("rounds()", x::rounds);
        CHECK.noIndex("fate(0)", () -> x.fate(0));
        CHECK.noIndex("instruction(0, 0, true)", () -> x.instruction(0, 0, true));
        CHECK.noState("run(false, 100)", () -> x.run(false, 100));
        lastRunIsStillTold(x);
        CHECK.due("add behind clear", x.add(Kinds.NOTHING, 0, 0, 0), 0);
        CHECK.noState("fate(0)", () -> x.fate(0));
        lastRunIsStillTold(x);
        CHECK.due("thrift() of the new program", x.thrift(), 0);
        CHECK.due("instruction(0, 0, false)", x.instruction(0, 0, false), Kinds.NOTHING);
        CHECK.due("clear() again", x.clear(), 1);
        CHECK.due("clear() of nothing", x.clear(), 0);
    }

    private static void lastRunIsStillTold(ThriftyStores x) {
        CHECK.due("steps() behind clear", x.steps(), 4);
        CHECK.due("printed() behind clear", x.printed(), 1);
        CHECK.due("print(0) behind clear", x.print(0), 8);
        CHECK.due("kept() behind clear", x.kept(), 1);
        CHECK.due("cell(0, 0, 1) behind clear", x.cell(0, 0, 1), 8);
    }

    private static void askingForInstructions() {
        ThriftyStores x = Kinds.program(Kinds.in(Kinds.MAKE, 1, 1), Kinds.in(Kinds.STORE, 1, 2));
        x.thrift();
        CHECK.due("instruction(1, 0, true)", x.instruction(1, 0, true), Kinds.STORE);
        CHECK.due("instruction(1, 1, true)", x.instruction(1, 1, true), 1);
        CHECK.due("instruction(1, 2, true)", x.instruction(1, 2, true), 2);
        for (int what = 1; what < 4; what++) {
            CHECK.due("instruction(1, " + what + ", false)", x.instruction(1, what, false), 0);
        }
        CHECK.due("instruction(1, 0, false)", x.instruction(1, 0, false), Kinds.NOTHING);
        CHECK.due("instruction(0, 0, false)", x.instruction(0, 0, false), Kinds.MAKE);
    }
}
