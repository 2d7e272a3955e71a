/** Promises 13 to 18: run, steps, printed, print, kept, cell. */
public final class RunTest {
    private static final Check CHECK = new Check("RunTest");
    private static final int MIN = Integer.MIN_VALUE;
    private static final int MAX = Integer.MAX_VALUE;

    private RunTest() {
    }

    public static void main(String[] args) {
        reckoning();
        sameness();
        shifting();
        traps();
        jumpsAndIfs();
        endsAndSteps();
        tooManyObjects();
        tooManyPrints();
        runsBeginAnew();
        keptObjects();
        keptOnlyBehindHalt();
        wrongRuns();
        wrongAsks();
        CHECK.end();
    }

    private static int[] in(int... row) {
        return Kinds.in(row);
    }

    private static void reckoning() {
        reckons(Kinds.SUM, 3, 4, 7);
        reckons(Kinds.SUM, MAX, 1, MIN);
        reckons(Kinds.DIFFERENCE, 3, 4, -1);
        reckons(Kinds.DIFFERENCE, MIN, 1, MAX);
        reckons(Kinds.PRODUCT, -3, 4, -12);
        reckons(Kinds.PRODUCT, 65536, 65536, 0);
        reckons(Kinds.PRODUCT, MIN, -1, MIN);
        reckons(Kinds.LESS, 3, 4, 1);
        reckons(Kinds.LESS, 4, 4, 0);
        reckons(Kinds.LESS, 5, 4, 0);
        reckons(Kinds.LESS, MIN, MAX, 1);
        reckons(Kinds.LESS, 0, -1, 0);
        reckons(Kinds.SAME, -1, -1, 1);
        reckons(Kinds.SAME, -1, 1, 0);
    }

    private static void reckons(int kind, int left, int right, int want) {
        ThriftyStores x = Kinds.program(in(Kinds.NUMBER, 1, left), in(Kinds.NUMBER, 2, right), in(kind, 3, 1, 2),
                in(Kinds.PRINT, 3));
        CHECK.due("run of kind " + kind, x.run(true, 10), 0);
        CHECK.due("kind " + kind + " of " + left + " and " + right, x.print(0), want);
    }

    private static void sameness() {
        ThriftyStores x = Kinds.program(in(Kinds.MAKE, 1, 2), in(Kinds.MAKE, 2, 2), in(Kinds.NUMBER, 3, 1),
                in(Kinds.SHIFT, 4, 1, 3), in(Kinds.NUMBER, 5, -1), in(Kinds.SHIFT, 5, 4, 5),
                in(Kinds.SAME, 6, 1, 5), in(Kinds.PRINT, 6), in(Kinds.SAME, 6, 1, 4), in(Kinds.PRINT, 6),
                in(Kinds.SAME, 6, 1, 2), in(Kinds.PRINT, 6), in(Kinds.SAME, 6, 1, 0), in(Kinds.PRINT, 6),
                in(Kinds.SAME, 6, 0, 1), in(Kinds.PRINT, 6));
        CHECK.due("run", x.run(true, 100), 0);
        int[] want = {1, 0, 0, 0, 0};
        for (int i = 0; i < want.length; i++) {
            CHECK.due("SAME " + i, x.print(i), want[i]);
        }
    }

    private static void shifting() {
        shifts(16, 15, 0, 0);
        shifts(16, 16, 0, 1);
        shifts(16, -1, 0, 1);
        shifts(1, 0, 0, 0);
        shifts(1, 1, 0, 1);
        shifts(4, 3, -3, 0);
        shifts(4, 3, -4, 1);
        shifts(4, 3, 1, 1);
        shifts(4, 3, MAX, 1);
        shifts(4, 0, MIN, 1);
        shifts(4, MIN, 0, 1);
    }

    private static void shifts(int cells, int by, int andBy, int end) {
        ThriftyStores x = Kinds.program(in(Kinds.MAKE, 1, cells), in(Kinds.NUMBER, 2, by), in(Kinds.SHIFT, 1, 1, 2),
                in(Kinds.NUMBER, 2, andBy), in(Kinds.SHIFT, 3, 1, 2), in(Kinds.HALT));
        CHECK.due("shift by " + by + ", " + andBy + " in " + cells, x.run(true, 10), end);
    }

    private static void traps() {
        // Registers: 1 is an address, 0 a number.
        int[][] trapping = {
            {Kinds.SUM, 2, 0, 1}, {Kinds.SUM, 2, 1, 0}, {Kinds.DIFFERENCE, 2, 0, 1}, {Kinds.DIFFERENCE, 2, 1, 1},
            {Kinds.PRODUCT, 2, 0, 1}, {Kinds.PRODUCT, 2, 1, 0}, {Kinds.LESS, 2, 0, 1}, {Kinds.LESS, 2, 1, 0},
            {Kinds.SHIFT, 2, 0, 0}, {Kinds.SHIFT, 2, 0, 1}, {Kinds.SHIFT, 2, 1, 1}, {Kinds.LOAD, 2, 0},
            {Kinds.STORE, 0, 1}, {Kinds.STORE, 0, 0}, {Kinds.PRINT, 1}, {Kinds.IF, 1, 0}};
        for (int[] row : trapping) {
            ThriftyStores x = Kinds.program(in(Kinds.PRINT, 0), in(Kinds.MAKE, 1, 2, 1), row);
            CHECK.due("kind " + row[0], x.run(true, 10), 1);
            CHECK.due("steps() behind a trap", x.steps(), 3);
            CHECK.due("printed() behind a trap", x.printed(), 1);
            CHECK.due("print(0) behind a trap", x.print(0), 0);
            CHECK.due("kept() behind a trap", x.kept(), 0);
            CHECK.noIndex("cell(0, 0, 0) behind a trap", () -> x.cell(0, 0, 0));
        }
        int[][] going = {
            {Kinds.MOVE, 2, 1}, {Kinds.SAME, 2, 1, 0}, {Kinds.SHIFT, 2, 1, 0}, {Kinds.LOAD, 2, 1}, {Kinds.STORE, 1, 1},
            {Kinds.STORE, 1, 0}, {Kinds.PRINT, 0}, {Kinds.IF, 0, 0}, {Kinds.NUMBER, 1, 3}, {Kinds.NOTHING}};
        for (int[] row : going) {
            ThriftyStores x = Kinds.program(in(Kinds.PRINT, 0), in(Kinds.MAKE, 1, 2, 1), row);
            CHECK.due("kind " + row[0], x.run(true, 10), 0);
            CHECK.due("steps()", x.steps(), 3);
        }
    }

    private static void jumpsAndIfs() {
        ThriftyStores x = Kinds.program(in(Kinds.NUMBER, 1, 3), in(Kinds.NUMBER, 2, -1), in(Kinds.PRINT, 1),
                in(Kinds.SUM, 1, 1, 2), in(Kinds.IF, 1, 2), in(Kinds.JUMP, 7), in(Kinds.PRINT, 2), in(Kinds.IF, 2, 200),
                in(Kinds.PRINT, 2));
        CHECK.due("run", x.run(true, 100), 0);
        CHECK.due("steps()", x.steps(), 13);
        CHECK.due("printed()", x.printed(), 3);
        for (int i = 0; i < 3; i++) {
            CHECK.due("print(" + i + ")", x.print(i), 3 - i);
        }
        ThriftyStores y = Kinds.program(in(Kinds.JUMP, 1));
        CHECK.due("a jump behind the last one", y.run(true, 1), 0);
        CHECK.due("steps()", y.steps(), 1);
    }

    private static void endsAndSteps() {
        ends(0, 1, 1, in(Kinds.HALT));
        ends(2, 1, 1, in(Kinds.NOTHING), in(Kinds.HALT));
        ends(0, 2, 2, in(Kinds.NOTHING), in(Kinds.HALT));
        ends(0, 1, 1, in(Kinds.NOTHING));
        ends(0, 1, 0);
        ends(0, 5000, 0);
        ends(2, 1, 1, in(Kinds.NOTHING), in(Kinds.LOAD, 1, 1));
        ends(1, 2, 2, in(Kinds.NOTHING), in(Kinds.LOAD, 1, 1));
        ends(2, 5000, 5000, in(Kinds.JUMP, 0));
        ends(2, 4999, 4999, in(Kinds.JUMP, 0));
    }

    private static void ends(int end, int most, int steps, int[]... rows) {
        ThriftyStores x = Kinds.program(rows);
        CHECK.due("run(true, " + most + ")", x.run(true, most), end);
        CHECK.due("steps()", x.steps(), steps);
        x.thrift();
        CHECK.due("run(false, " + most + ")", x.run(false, most), end);
        CHECK.due("steps()", x.steps(), steps);
    }

    private static ThriftyStores repeated(int times, int[]... rows) {
        ThriftyStores x = Kinds.program(in(Kinds.NUMBER, 14, times), in(Kinds.NUMBER, 15, 1));
        Kinds.write(x, rows);
        Kinds.write(x, in(Kinds.DIFFERENCE, 14, 14, 15), in(Kinds.IF, 14, 2));
        return x;
    }

    private static void tooManyObjects() {
        ThriftyStores x = repeated(300, in(Kinds.MAKE, 1, 16, 1), in(Kinds.STORE, 1, 14));
        CHECK.due("300 objects", x.run(true, 5000), 0);
        CHECK.due("kept()", x.kept(), 300);
        CHECK.due("cell(299, 0, 1)", x.cell(299, 0, 1), 1);
        CHECK.due("cell(299, 15, 1)", x.cell(299, 15, 1), 0);
        CHECK.due("cell(0, 0, 1)", x.cell(0, 0, 1), 300);
        CHECK.noIndex("cell(300, 0, 0)", () -> x.cell(300, 0, 0));
        ThriftyStores y = repeated(301, in(Kinds.MAKE, 1, 1, 1));
        CHECK.due("301 objects", y.run(true, 5000), 3);
        CHECK.due("steps()", y.steps(), 2 + 300 * 3 + 1);
        CHECK.due("kept()", y.kept(), 0);
        CHECK.due("no step for the 301st", y.run(true, 2 + 300 * 3), 2);
    }

    private static void tooManyPrints() {
        ThriftyStores x = repeated(200, in(Kinds.PRINT, 14));
        CHECK.due("200 prints", x.run(true, 5000), 0);
        CHECK.due("printed()", x.printed(), 200);
        CHECK.due("print(199)", x.print(199), 1);
        ThriftyStores y = repeated(201, in(Kinds.PRINT, 14));
        CHECK.due("201 prints", y.run(true, 5000), 3);
        CHECK.due("printed()", y.printed(), 200);
        CHECK.due("print(199)", y.print(199), 2);
        CHECK.due("steps()", y.steps(), 2 + 200 * 3 + 1);
        CHECK.noIndex("print(200)", () -> y.print(200));
        ThriftyStores z = repeated(200, in(Kinds.PRINT, 14));
        Kinds.write(z, in(Kinds.MAKE, 1, 1), in(Kinds.PRINT, 1));
        CHECK.due("an address is no number to print", z.run(true, 5000), 1);
    }

    private static void runsBeginAnew() {
        ThriftyStores x = Kinds.program(in(Kinds.PRINT, 3), in(Kinds.NUMBER, 3, 9), in(Kinds.MAKE, 1, 2, 1),
                in(Kinds.LOAD, 2, 1), in(Kinds.PRINT, 2), in(Kinds.STORE, 1, 3));
        for (int k = 0; k < 3; k++) {
            CHECK.due("run", x.run(true, 10), 0);
            CHECK.due("printed()", x.printed(), 2);
            CHECK.due("print(0)", x.print(0), 0);
            CHECK.due("print(1)", x.print(1), 0);
            CHECK.due("kept()", x.kept(), 1);
            CHECK.due("cell(0, 0, 1)", x.cell(0, 0, 1), 9);
        }
        CHECK.due("run with few steps", x.run(true, 1), 2);
        CHECK.due("steps()", x.steps(), 1);
        CHECK.due("printed()", x.printed(), 1);
        CHECK.due("kept()", x.kept(), 0);
    }

    private static void keptObjects() {
        ThriftyStores x = Kinds.program(in(Kinds.MAKE, 1, 3, 0), in(Kinds.MAKE, 2, 2, 1), in(Kinds.MAKE, 3, 4, 0),
                in(Kinds.MAKE, 4, 3, 1), in(Kinds.NUMBER, 5, 2), in(Kinds.SHIFT, 6, 4, 5), in(Kinds.STORE, 2, 6),
                in(Kinds.NUMBER, 7, -5), in(Kinds.STORE, 6, 7), in(Kinds.STORE, 4, 1), in(Kinds.HALT));
        CHECK.due("run", x.run(true, 100), 0);
        CHECK.due("kept()", x.kept(), 2);
        dueCell(x, 0, 0, 1, 3, 2);
        dueCell(x, 0, 1, 0, 0, 0);
        dueCell(x, 1, 0, 1, 0, 0);
        dueCell(x, 1, 1, 0, 0, 0);
        dueCell(x, 1, 2, 0, -5, 0);
        CHECK.noIndex("cell(0, 2, 0)", () -> x.cell(0, 2, 0));
        CHECK.noIndex("cell(1, 3, 0)", () -> x.cell(1, 3, 0));
        CHECK.noIndex("cell(2, 0, 0)", () -> x.cell(2, 0, 0));
        CHECK.noIndex("cell(-1, 0, 0)", () -> x.cell(-1, 0, 0));
        CHECK.noIndex("cell(0, -1, 0)", () -> x.cell(0, -1, 0));
        CHECK.noIndex("cell(0, 2, 9)", () -> x.cell(0, 2, 9));
        CHECK.noArgument("cell(0, 0, 3)", () -> x.cell(0, 0, 3));
        CHECK.noArgument("cell(0, 0, -1)", () -> x.cell(0, 0, -1));
    }

    private static void dueCell(ThriftyStores x, int i, int k, int address, int first, int place) {
        CHECK.due("cell(" + i + ", " + k + ", 0)", x.cell(i, k, 0), address);
        CHECK.due("cell(" + i + ", " + k + ", 1)", x.cell(i, k, 1), first);
        CHECK.due("cell(" + i + ", " + k + ", 2)", x.cell(i, k, 2), place);
    }

    private static void keptOnlyBehindHalt() {
        ThriftyStores x = Kinds.program(in(Kinds.MAKE, 1, 1, 1), in(Kinds.NOTHING));
        CHECK.due("run out of steps", x.run(true, 1), 2);
        CHECK.due("kept()", x.kept(), 0);
        CHECK.due("run to where none is any more", x.run(true, 2), 0);
        CHECK.due("kept()", x.kept(), 1);
        x.clear();
        Kinds.write(x, in(Kinds.MAKE, 1, 1, 1), in(Kinds.MAKE, 1, 1, 1), in(Kinds.PRINT, 1));
        CHECK.due("run into a trap", x.run(true, 100), 1);
        CHECK.due("kept()", x.kept(), 0);
    }

    private static void wrongRuns() {
        ThriftyStores x = Kinds.program(in(Kinds.PRINT, 0), in(Kinds.MAKE, 0, 1, 1));
        CHECK.due("run", x.run(true, 10), 0);
        int[] wrong = {0, -1, 5001, MIN, MAX};
        for (int steps : wrong) {
            CHECK.noArgument("run(true, " + steps + ")", () -> x.run(true, steps));
            CHECK.noArgument("run(false, " + steps + ")", () -> x.run(false, steps));
        }
        CHECK.noState("run(false, 5)", () -> x.run(false, 5));
        CHECK.due("steps() behind a call that threw", x.steps(), 2);
        CHECK.due("printed() behind a call that threw", x.printed(), 1);
        CHECK.due("kept() behind a call that threw", x.kept(), 1);
        x.thrift();
        CHECK.due("run(false, 5)", x.run(false, 5), 0);
        CHECK.noArgument("run(false, 0)", () -> x.run(false, 0));
    }

    private static void wrongAsks() {
        ThriftyStores x = Kinds.program(in(Kinds.PRINT, 0));
        x.run(true, 10);
        CHECK.noIndex("print(-1)", () -> x.print(-1));
        CHECK.noIndex("print(1)", () -> x.print(1));
        CHECK.noIndex("print(MAX)", () -> x.print(MAX));
        CHECK.noIndex("cell(0, 0, 0)", () -> x.cell(0, 0, 0));
        CHECK.noIndex("cell(0, 0, 7)", () -> x.cell(0, 0, 7));
    }
}
