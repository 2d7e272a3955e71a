/** Promises 13 to 18: run, steps, printed, print, kept, cell; their bounds have a test of their own. */
public final class RunTest {
    private static final Check CHECK = new Check("RunTest");
    private static final int MIN = Integer.MIN_VALUE;
    private static final int MAX = Integer.MAX_VALUE;

    private RunTest() {
    }

    public static void main(String[] args) {
        reckoning();
        sameness();
        jumpsAndIfs();
        runsBeginAnew();
        keptObjects();
        CHECK.end();
    }

    private static int[] in(int... row) {
        return Kinds.in(row);
    }

    private static void reckoning() {
        reckons(Kinds.SUM, 3, 4, 7);
        reckons(Kinds.SUM, MAX, 1, MIN);
        reckons(Kinds.DIFFERENCE, 3, 4, -1);
        reckons(Kinds.DIFFERENCE, MIN, 1, MAX);
        reckons(Kinds.PRODUCT, -3, 4, -12);
        reckons(Kinds.PRODUCT, 65536, 65536, 0);
        reckons(Kinds.PRODUCT, MIN, -1, MIN);
        reckons(Kinds.LESS, 3, 4, 1);
        reckons(Kinds.LESS, 4, 4, 0);
        reckons(Kinds.LESS, 5, 4, 0);
        reckons(Kinds.LESS, MIN, MAX, 1);
        reckons(Kinds.LESS, 0, -1, 0);
        reckons(Kinds.SAME, -1, -1, 1);
        reckons(Kinds.SAME, -1, 1, 0);
    }

    private static void reckons(int kind, int left, int right, int want) {
        ThriftyStores x = Kinds.program(in(Kinds.NUMBER, 1, left), in(Kinds.NUMBER, 2, right), in(kind, 3, 1, 2),
                in(Kinds.PRINT, 3));
        CHECK.due("run of kind " + kind, x.run(true, 10), 0);
        CHECK.due("kind " + kind + " of " + left + " and " + right, x.print(0), want);
    }

    private static void sameness() {
        ThriftyStores x = Kinds.program(in(Kinds.MAKE, 1, 2), in(Kinds.MAKE, 2, 2), in(Kinds.NUMBER, 3, 1),
                in(Kinds.SHIFT, 4, 1, 3), in(Kinds.NUMBER, 5, -1), in(Kinds.SHIFT, 5, 4, 5),
                in(Kinds.SAME, 6, 1, 5), in(Kinds.PRINT, 6), in(Kinds.SAME, 6, 1, 4), in(Kinds.PRINT, 6),
                in(Kinds.SAME, 6, 1, 2), in(Kinds.PRINT, 6), in(Kinds.SAME, 6, 1, 0), in(Kinds.PRINT, 6),
                in(Kinds.SAME, 6, 0, 1), in(Kinds.PRINT, 6));
        CHECK.due("run", x.run(true, 100), 0);
        int[] want = {1, 0, 0, 0, 0};
        for (int i = 0; i < want.length; i++) {
            CHECK.due("SAME " + i, x.print(i), want[i]);
        }
    }

    private static void jumpsAndIfs() {
        ThriftyStores x = Kinds.program(in(Kinds.NUMBER, 1, 3), in(Kinds.NUMBER, 2, -1), in(Kinds.PRINT, 1),
                in(Kinds.SUM, 1, 1, 2), in(Kinds.IF, 1, 2), in(Kinds.JUMP, 7), in(Kinds.PRINT, 2), in(Kinds.IF, 2, 200),
                in(Kinds.PRINT, 2));
        CHECK.due("run", x.run(true, 100), 0);
        CHECK.due("steps()", x.steps(), 13);
        CHECK.due("printed()", x.printed(), 3);
        for (int i = 0; i < 3; i++) {
            CHECK.due("print(" + i + ")", x.print(i), 3 - i);
        }
        ThriftyStores y = Kinds.program(in(Kinds.JUMP, 1));
        CHECK.due("a jump behind the last one", y.run(true, 1), 0);
        CHECK.due("steps()", y.steps(), 1);
    }

    private static void runsBeginAnew() {
        ThriftyStores x = Kinds.program(in(Kinds.PRINT, 3), in(Kinds.NUMBER, 3, 9), in(Kinds.MAKE, 1, 2, 1),
                in(Kinds.LOAD, 2, 1), in(Kinds.PRINT, 2), in(Kinds.STORE, 1, 3));
        for (int k = 0; k < 3; k++) {
            CHECK.due("run", x.run(true, 10), 0);
            CHECK.due("printed()", x.printed(), 2);
            CHECK.due("print(0)", x.print(0), 0);
            CHECK.due("print(1)", x.print(1), 0);
            CHECK.due("kept()", x.kept(), 1);
            CHECK.due("cell(0, 0, 1)", x.cell(0, 0, 1), 9);
        }
        CHECK.due("run with few steps", x.run(true, 1), 2);
        CHECK.due("steps()", x.steps(), 1);
        CHECK.due("printed()", x.printed(), 1);
        CHECK.due("kept()", x.kept(), 0);
    }

    private static void keptObjects() {
        ThriftyStores x = Kinds.program(in(Kinds.MAKE, 1, 3, 0), in(Kinds.MAKE, 2, 2, 1), in(Kinds.MAKE, 3, 4, 0),
                in(Kinds.MAKE, 4, 3, 1), in(Kinds.NUMBER, 5, 2), in(Kinds.SHIFT, 6, 4, 5), in(Kinds.STORE, 2, 6),
                in(Kinds.NUMBER, 7, -5), in(Kinds.STORE, 6, 7), in(Kinds.STORE, 4, 1), in(Kinds.HALT));
        CHECK.due("run", x.run(true, 100), 0);
        CHECK.due("kept()", x.kept(), 2);
        dueCell(x, 0, 0, 1, 3, 2);
        dueCell(x, 0, 1, 0, 0, 0);
        dueCell(x, 1, 0, 1, 0, 0);
        dueCell(x, 1, 1, 0, 0, 0);
        dueCell(x, 1, 2, 0, -5, 0);
    }

    private static void dueCell(ThriftyStores x, int i, int k, int address, int first, int place) {
        CHECK.due("cell(" + i + ", " + k + ", 0)", x.cell(i, k, 0), address);
        CHECK.due("cell(" + i + ", " + k + ", 1)", x.cell(i, k, 1), first);
        CHECK.due("cell(" + i + ", " + k + ", 2)", x.cell(i, k, 2), place);
    }
}
