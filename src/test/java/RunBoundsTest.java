/** The bounds of a run and of what it leaves: promises 13 to 18, and the terms of values, kinds and runs. */
public final class RunBoundsTest {
    private static final Check CHECK = new Check("RunBoundsTest");
    private static final int MIN = Integer.MIN_VALUE;
    private static final int MAX = Integer.MAX_VALUE;
    private static final int HALTED = 0;
    private static final int TRAPPED = 1;
    private static final int OUT_OF_STEPS = 2;
    private static final int OUT_OF_ROOM = 3;

    private RunBoundsTest() {
    }

    public static void main(String[] args) {
        numbersWrap();
        placesWithinTheObject();
        shiftsDoNotWrap();
        newCellsAreZero();
        allRegistersAreZeroAtFirst();
        whereNoneIsAnyMore();
        aWrongValueTraps();
        asManyStepsAsItMay();
        theLastStepMayTrapOrBeTooMuch();
        threeHundredObjects();
        twoHundredPrintedNumbers();
        stepsFromOneToFiveThousand();
        theThriftyRunHasTheSameBounds();
        stepsBeforeOne();
        printedNumbers();
        keptBehindAHaltAlone();
        cellsOfKeptObjects();
        theLastRunAlone();
        CHECK.end();
    }

    private static int[] in(int... row) {
        return Kinds.in(row);
    }

    private static void dueRun(ThriftyStores x, int most, int end, int steps) {
        CHECK.due("run(true, " + most + ")", x.run(true, most), end);
        CHECK.due("steps()", x.steps(), steps);
    }

    /** A program that does the rows as often as told: two instructions before them, two behind them. */
    private static ThriftyStores repeated(int times, int[]... rows) {
        ThriftyStores x = Kinds.program(in(Kinds.NUMBER, 14, times), in(Kinds.NUMBER, 15, 1));
        Kinds.write(x, rows);
        Kinds.write(x, in(Kinds.DIFFERENCE, 14, 14, 15), in(Kinds.IF, 14, 2));
        return x;
    }

    private static void numbersWrap() {
        CHECK.under("NUMBERS (32 bits, wrapping)");
        int[] numbers = {0, 1, -1, 2, -2, 3, 65535, 65536, 1 << 30, -(1 << 30), MAX, MIN, MAX - 1, MIN + 1};
        for (int left : numbers) {
            for (int right : numbers) {
                ThriftyStores x = Kinds.program(in(Kinds.NUMBER, 1, left), in(Kinds.NUMBER, 2, right),
                        in(Kinds.SUM, 3, 1, 2), in(Kinds.PRINT, 3), in(Kinds.DIFFERENCE, 3, 1, 2), in(Kinds.PRINT, 3),
                        in(Kinds.PRODUCT, 3, 1, 2), in(Kinds.PRINT, 3), in(Kinds.LESS, 3, 1, 2), in(Kinds.PRINT, 3),
                        in(Kinds.SAME, 3, 1, 2), in(Kinds.PRINT, 3), in(Kinds.PRINT, 1), in(Kinds.IF, 1, 15),
                        in(Kinds.PRINT, 2));
                dueRun(x, 99, HALTED, left != 0 ? 14 : 15);
                long l = left;
                long r = right;
                CHECK.due(left + " + " + right, x.print(0), (int) (l + r));
                CHECK.due(left + " - " + right, x.print(1), (int) (l - r));
                CHECK.due(left + " * " + right, x.print(2), (int) (l * r));
                CHECK.due(left + " < " + right, x.print(3), l < r ? 1 : 0);
                CHECK.due(left + " = " + right, x.print(4), l == r ? 1 : 0);
                CHECK.due("the number " + left, x.print(5), left);
            }
        }
    }

    private static void placesWithinTheObject() {
        CHECK.under("a place in it, 0 .. its size - 1; a TRAP: a SHIFT out of its object");
        for (int cells = 1; cells <= 16; cells++) {
            for (int from = 0; from < cells; from++) {
                for (int to = -1; to <= cells; to++) {
                    boolean inside = to >= 0 && to < cells;
                    ThriftyStores x = shifted(cells, from, to - from);
                    dueRun(x, 99, inside ? HALTED : TRAPPED, inside ? 6 : 5);
                    if (inside) {
                        CHECK.due("the place of it", x.cell(0, 0, 2), to);
                    }
                }
            }
        }
    }

    /** Its first KEPT object gets the address in its first cell, when both shifts are done. */
    private static ThriftyStores shifted(int cells, int from, int by) {
        return Kinds.program(in(Kinds.MAKE, 1, cells, 1), in(Kinds.NUMBER, 2, from), in(Kinds.SHIFT, 3, 1, 2),
                in(Kinds.NUMBER, 2, by), in(Kinds.SHIFT, 3, 3, 2), in(Kinds.STORE, 1, 3));
    }

    private static void shiftsDoNotWrap() {
        CHECK.under("a TRAP: a SHIFT out of its object");
        int[] far = {MAX, MIN, MAX - 14, MAX - 15, MIN + 1, 1 << 16, -(1 << 16), 1 << 30, 256};
        for (int by : far) {
            dueRun(shifted(16, 0, by), 99, TRAPPED, 5);
            dueRun(shifted(16, 15, by), 99, TRAPPED, 5);
        }
    }

    private static void newCellsAreZero() {
        CHECK.under("a new object of b cells (1 .. 16), all number 0");
        int[] sizes = {1, 2, 15, 16};
        for (int cells : sizes) {
            ThriftyStores x = Kinds.program(in(Kinds.MAKE, 1, cells, 1), in(Kinds.MAKE, 2, cells, 1),
                    in(Kinds.NUMBER, 3, cells - 1), in(Kinds.SHIFT, 4, 1, 3), in(Kinds.STORE, 4, 1));
            for (int times = 0; times < 2; times++) {
                dueRun(x, 99, HALTED, 5);
                CHECK.due("kept()", x.kept(), 2);
                for (int k = 0; k < cells; k++) {
                    CHECK.due("address in cell " + k + " of the first", x.cell(0, k, 0), k == cells - 1 ? 1 : 0);
                    CHECK.due("address in cell " + k + " of the second", x.cell(1, k, 0), 0);
                    CHECK.due("number in cell " + k + " of the second", x.cell(1, k, 1), 0);
                }
                CHECK.noIndex("one cell too many", () -> x.cell(1, cells, 0));
                CHECK.due("run of two steps", x.run(true, 2), OUT_OF_STEPS);
            }
        }
    }

    private static void allRegistersAreZeroAtFirst() {
        CHECK.under("A RUN begins with instruction 0; all registers are number 0, there are no objects");
        ThriftyStores x = new ThriftyStores();
        for (int r = 0; r < 16; r++) {
            Kinds.write(x, in(Kinds.PRINT, r));
        }
        for (int r = 0; r < 16; r++) {
            Kinds.write(x, r % 2 == 0 ? in(Kinds.MAKE, r, 1, 1) : in(Kinds.NUMBER, r, -7));
        }
        for (int times = 0; times < 2; times++) {
            dueRun(x, 99, HALTED, 32);
            CHECK.due("kept()", x.kept(), 8);
            CHECK.due("printed()", x.printed(), 16);
            for (int r = 0; r < 16; r++) {
                CHECK.due("register " + r, x.print(r), 0);
            }
        }
        // The first object of the second run has none made before it.
        ThriftyStores y = Kinds.program(in(Kinds.MAKE, 1, 1, 1), in(Kinds.STORE, 1, 1));
        for (int times = 0; times < 2; times++) {
            dueRun(y, 99, HALTED, 2);
            CHECK.due("objects made before it", y.cell(0, 0, 1), 0);
        }
    }

    private static void whereNoneIsAnyMore() {
        CHECK.under("JUMP (a): to instruction a (0 .. 200). Where none is any more, it HALTS");
        dueRun(new ThriftyStores(), 1, HALTED, 0);
        int[] beyond = {2, 3, 199, 200};
        for (int target : beyond) {
            dueRun(Kinds.program(in(Kinds.JUMP, target), in(Kinds.PRINT, 0)), 9, HALTED, 1);
            dueRun(Kinds.program(in(Kinds.NUMBER, 1, -1), in(Kinds.IF, 1, target)), 9, HALTED, 2);
        }
        dueRun(Kinds.program(in(Kinds.JUMP, 1), in(Kinds.PRINT, 0)), 9, HALTED, 2);
        dueRun(Kinds.program(in(Kinds.JUMP, 0), in(Kinds.PRINT, 0)), 9, OUT_OF_STEPS, 9);
        ThriftyStores full = new ThriftyStores();
        full.add(Kinds.JUMP, 199, 0, 0);
        for (int i = 1; i < 199; i++) {
            full.add(Kinds.HALT, 0, 0, 0);
        }
        full.add(Kinds.JUMP, 200, 0, 0);
        dueRun(full, 2, HALTED, 2);
        // What was no instruction yet when the JUMP was written is one when it is run.
        ThriftyStores grown = Kinds.program(in(Kinds.JUMP, 2), in(Kinds.HALT));
        dueRun(grown, 9, HALTED, 1);
        Kinds.write(grown, in(Kinds.PRINT, 0));
        dueRun(grown, 9, HALTED, 2);
        CHECK.due("printed()", grown.printed(), 1);
    }

    private static void aWrongValueTraps() {
        CHECK.under("1 by a TRAP: a number where an address must be or the other way round");
        // Register 1 is an address, register 0 a number.
        int[][] trapping = {
            {Kinds.SUM, 2, 0, 1}, {Kinds.SUM, 2, 1, 0}, {Kinds.SUM, 2, 1, 1},
            {Kinds.DIFFERENCE, 2, 0, 1}, {Kinds.DIFFERENCE, 2, 1, 0}, {Kinds.DIFFERENCE, 2, 1, 1},
            {Kinds.PRODUCT, 2, 0, 1}, {Kinds.PRODUCT, 2, 1, 0}, {Kinds.PRODUCT, 2, 1, 1},
            {Kinds.LESS, 2, 0, 1}, {Kinds.LESS, 2, 1, 0}, {Kinds.LESS, 2, 1, 1},
            {Kinds.SHIFT, 2, 0, 0}, {Kinds.SHIFT, 2, 0, 1}, {Kinds.SHIFT, 2, 1, 1}, {Kinds.LOAD, 2, 0},
            {Kinds.STORE, 0, 1}, {Kinds.STORE, 0, 0}, {Kinds.PRINT, 1}, {Kinds.IF, 1, 0}, {Kinds.IF, 1, 200}};
        for (int[] row : trapping) {
            ThriftyStores x = Kinds.program(in(Kinds.MAKE, 1, 2, 1), in(Kinds.PRINT, 0), row, in(Kinds.PRINT, 0));
            dueRun(x, 9, TRAPPED, 3);
            CHECK.due("printed() behind kind " + row[0], x.printed(), 1);
            CHECK.due("kept() behind kind " + row[0], x.kept(), 0);
        }
        int[][] going = {
            {Kinds.NUMBER, 1, 0}, {Kinds.MOVE, 2, 1}, {Kinds.MOVE, 1, 0}, {Kinds.SUM, 1, 0, 0}, {Kinds.LESS, 1, 0, 0},
            {Kinds.SAME, 2, 1, 0}, {Kinds.SAME, 2, 0, 1}, {Kinds.SAME, 2, 1, 1}, {Kinds.SHIFT, 2, 1, 0},
            {Kinds.MAKE, 1, 1}, {Kinds.LOAD, 2, 1}, {Kinds.LOAD, 1, 1}, {Kinds.STORE, 1, 1}, {Kinds.STORE, 1, 0},
            {Kinds.PRINT, 0}, {Kinds.IF, 0, 0}, {Kinds.NOTHING}};
        for (int[] row : going) {
            ThriftyStores x = Kinds.program(in(Kinds.MAKE, 1, 2, 1), in(Kinds.PRINT, 0), row, in(Kinds.PRINT, 0));
            dueRun(x, 9, HALTED, 4);
            CHECK.due("kept() behind kind " + row[0], x.kept(), 1);
        }
    }

    private static void asManyStepsAsItMay() {
        CHECK.under("2 when it has made as many steps as it may, and would do one more (also HALT; not where none is"
                + " any more)");
        dueRun(Kinds.program(in(Kinds.HALT)), 1, HALTED, 1);
        dueRun(Kinds.program(in(Kinds.NOTHING)), 1, HALTED, 1);
        ThriftyStores halting = Kinds.program(in(Kinds.NOTHING), in(Kinds.NOTHING), in(Kinds.HALT));
        dueRun(halting, 1, OUT_OF_STEPS, 1);
        dueRun(halting, 2, OUT_OF_STEPS, 2);
        dueRun(halting, 3, HALTED, 3);
        dueRun(halting, 4, HALTED, 3);
        ThriftyStores running = Kinds.program(in(Kinds.NOTHING), in(Kinds.NOTHING), in(Kinds.NOTHING));
        dueRun(running, 2, OUT_OF_STEPS, 2);
        dueRun(running, 3, HALTED, 3);
        dueRun(running, 4, HALTED, 3);
        ThriftyStores jumping = Kinds.program(in(Kinds.NOTHING), in(Kinds.JUMP, 200), in(Kinds.HALT));
        dueRun(jumping, 1, OUT_OF_STEPS, 1);
        dueRun(jumping, 2, HALTED, 2);
    }

    private static void theLastStepMayTrapOrBeTooMuch() {
        CHECK.under("2 when it has made as many steps as it may, and would do one more");
        ThriftyStores trapping = Kinds.program(in(Kinds.NOTHING), in(Kinds.LOAD, 1, 1));
        dueRun(trapping, 1, OUT_OF_STEPS, 1);
        dueRun(trapping, 2, TRAPPED, 2);
        ThriftyStores makes = repeated(301, in(Kinds.MAKE, 1, 1));
        dueRun(makes, 902, OUT_OF_STEPS, 902);
        dueRun(makes, 903, OUT_OF_ROOM, 903);
        ThriftyStores prints = repeated(201, in(Kinds.PRINT, 14));
        dueRun(prints, 602, OUT_OF_STEPS, 602);
        dueRun(prints, 603, OUT_OF_ROOM, 603);
    }

    private static void threeHundredObjects() {
        CHECK.under("3 when there would be more than 300 objects");
        ThriftyStores all = repeated(300, in(Kinds.MAKE, 1, 16, 1), in(Kinds.STORE, 1, 14));
        dueRun(all, 5000, HALTED, 2 + 300 * 4);
        CHECK.due("kept()", all.kept(), 300);
        for (int i = 0; i < 300; i += 13) {
            CHECK.due("cell(" + i + ", 0, 1)", all.cell(i, 0, 1), 300 - i);
            CHECK.due("cell(" + i + ", 15, 1)", all.cell(i, 15, 1), 0);
        }
        CHECK.due("cell(299, 0, 1)", all.cell(299, 0, 1), 1);
        CHECK.noIndex("cell(300, 0, 0)", () -> all.cell(300, 0, 0));
        for (int kept = 0; kept < 2; kept++) {
            ThriftyStores objects = repeated(301, in(Kinds.MAKE, 1, 1, kept));
            dueRun(objects, 5000, OUT_OF_ROOM, 2 + 300 * 3 + 1);
            CHECK.due("kept() behind it", objects.kept(), 0);
        }
        // The 300th may still be the address of each thing that is done with it.
        ThriftyStores last = repeated(300, in(Kinds.MAKE, 1, 1, 1), in(Kinds.STORE, 1, 1));
        dueRun(last, 5000, HALTED, 2 + 300 * 4);
        CHECK.due("objects made before the last", last.cell(299, 0, 1), 299);
    }

    private static void twoHundredPrintedNumbers() {
        CHECK.under("3 when there would be more than 200 printed numbers");
        ThriftyStores all = repeated(200, in(Kinds.PRINT, 14));
        dueRun(all, 5000, HALTED, 2 + 200 * 3);
        CHECK.due("printed()", all.printed(), 200);
        CHECK.due("print(0)", all.print(0), 200);
        CHECK.due("print(199)", all.print(199), 1);
        CHECK.noIndex("print(200)", () -> all.print(200));
        ThriftyStores more = repeated(201, in(Kinds.PRINT, 14));
        dueRun(more, 5000, OUT_OF_ROOM, 2 + 200 * 3 + 1);
        CHECK.due("printed()", more.printed(), 200);
        CHECK.due("print(199)", more.print(199), 2);
        CHECK.noIndex("print(200)", () -> more.print(200));
        // An address is no number to be printed, be there room or not.
        ThriftyStores address = repeated(200, in(Kinds.PRINT, 14));
        Kinds.write(address, in(Kinds.MAKE, 1, 1), in(Kinds.PRINT, 1));
        dueRun(address, 5000, TRAPPED, 2 + 200 * 3 + 2);
    }

    private static void stepsFromOneToFiveThousand() {
        CHECK.under("IllegalArgumentException when steps is not 1 .. 5000");
        ThriftyStores x = Kinds.program(in(Kinds.JUMP, 0));
        dueRun(x, 1, OUT_OF_STEPS, 1);
        dueRun(x, 2, OUT_OF_STEPS, 2);
        dueRun(x, 4999, OUT_OF_STEPS, 4999);
        dueRun(x, 5000, OUT_OF_STEPS, 5000);
        int[] wrong = {0, -1, 5001, MIN, MAX};
        for (int steps : wrong) {
            CHECK.noArgument("run(true, " + steps + ")", () -> x.run(true, steps));
            CHECK.noArgument("run(false, " + steps + "), not thrifty", () -> x.run(false, steps));
            CHECK.due("steps() behind it", x.steps(), 5000);
        }
        CHECK.under("IllegalStateException when it was not made thrifty, of that");
        CHECK.noState("run(false, 1)", () -> x.run(false, 1));
        CHECK.noState("run(false, 5000)", () -> x.run(false, 5000));
        CHECK.due("steps() behind it", x.steps(), 5000);
        x.thrift();
        CHECK.due("run(false, 1)", x.run(false, 1), OUT_OF_STEPS);
        for (int steps : wrong) {
            CHECK.noArgument("run(false, " + steps + ")", () -> x.run(false, steps));
            CHECK.due("steps() behind it", x.steps(), 1);
        }
        dueRun(x, 5000, OUT_OF_STEPS, 5000);
    }

    private static void theThriftyRunHasTheSameBounds() {
        CHECK.under("Runs the program as it was written, or else the thrifty one, with at most so many steps");
        // The LOAD becomes a MOVE and the STORE becomes NOTHING: each is a step as it was before.
        ThriftyStores x = Kinds.program(in(Kinds.MAKE, 1, 1), in(Kinds.STORE, 1, 2), in(Kinds.LOAD, 3, 1),
                in(Kinds.HALT));
        CHECK.due("thrift()", x.thrift(), 2);
        for (int most = 1; most < 6; most++) {
            CHECK.due("run(false, " + most + ")", x.run(false, most), most < 4 ? OUT_OF_STEPS : HALTED);
            CHECK.due("steps()", x.steps(), Math.min(most, 4));
        }
        ThriftyStores makes = repeated(301, in(Kinds.MAKE, 1, 1), in(Kinds.STORE, 1, 2), in(Kinds.STORE, 1, 2));
        CHECK.due("thrift()", makes.thrift(), 1);
        CHECK.due("run(false, 5000)", makes.run(false, 5000), OUT_OF_ROOM);
        CHECK.due("steps()", makes.steps(), 2 + 300 * 5 + 1);
        ThriftyStores prints = repeated(201, in(Kinds.PRINT, 14));
        prints.thrift();
        CHECK.due("run(false, 5000)", prints.run(false, 5000), OUT_OF_ROOM);
        CHECK.due("printed()", prints.printed(), 200);
        ThriftyStores empty = Kinds.thrifty();
        CHECK.due("run(false, 1) of the empty program", empty.run(false, 1), HALTED);
        CHECK.due("steps()", empty.steps(), 0);
    }

    private static void stepsBeforeOne() {
        CHECK.under("How many steps the last run made (0 before one)");
        ThriftyStores x = Kinds.program(in(Kinds.NOTHING));
        CHECK.due("steps()", x.steps(), 0);
        CHECK.noArgument("run(true, 0)", () -> x.run(true, 0));
        CHECK.due("steps() behind a run that was refused", x.steps(), 0);
        x.thrift();
        CHECK.due("steps() behind thrift", x.steps(), 0);
        dueRun(x, 1, HALTED, 1);
        x.clear();
        dueRun(x, 1, HALTED, 0);
    }

    private static void printedNumbers() {
        CHECK.under("Number i that the last run printed. IndexOutOfBoundsException");
        ThriftyStores x = Kinds.program(in(Kinds.PRINT, 0), in(Kinds.NUMBER, 0, MIN), in(Kinds.PRINT, 0));
        CHECK.due("printed() before a run", x.printed(), 0);
        CHECK.noIndex("print(0) before a run", () -> x.print(0));
        dueRun(x, 9, HALTED, 3);
        CHECK.due("printed()", x.printed(), 2);
        CHECK.due("print(0)", x.print(0), 0);
        CHECK.due("print(1)", x.print(1), MIN);
        int[] none = {-1, 2, 199, 200, MIN, MAX};
        for (int i : none) {
            CHECK.noIndex("print(" + i + ")", () -> x.print(i));
        }
        dueRun(x, 1, OUT_OF_STEPS, 1);
        CHECK.due("printed() behind one step", x.printed(), 1);
        CHECK.noIndex("print(1) behind one step", () -> x.print(1));
    }

    private static void keptBehindAHaltAlone() {
        CHECK.under("How many KEPT objects there are behind the last run, if it ended by a HALT (0 otherwise)");
        ThriftyStores x = Kinds.program(in(Kinds.MAKE, 1, 1, 1), in(Kinds.MAKE, 2, 1, 0), in(Kinds.IF, 3, 4),
                in(Kinds.HALT));
        CHECK.due("kept() before a run", x.kept(), 0);
        dueRun(x, 3, OUT_OF_STEPS, 3);
        dueKept(x, 0);
        dueRun(x, 4, HALTED, 4);
        dueKept(x, 1);
        ThriftyStores behindTheLast = Kinds.program(in(Kinds.MAKE, 1, 1, 1), in(Kinds.JUMP, 200));
        dueRun(behindTheLast, 2, HALTED, 2);
        dueKept(behindTheLast, 1);
        ThriftyStores trap = Kinds.program(in(Kinds.MAKE, 1, 1, 1), in(Kinds.PRINT, 1));
        dueRun(trap, 2, TRAPPED, 2);
        dueKept(trap, 0);
        ThriftyStores room = repeated(301, in(Kinds.MAKE, 1, 1, 1));
        dueRun(room, 5000, OUT_OF_ROOM, 903);
        dueKept(room, 0);
        ThriftyStores none = Kinds.program(in(Kinds.MAKE, 1, 1, 0));
        dueRun(none, 1, HALTED, 1);
        dueKept(none, 0);
    }

    private static void dueKept(ThriftyStores x, int kept) {
        CHECK.due("kept()", x.kept(), kept);
        if (kept > 0) {
            CHECK.due("cell of the last one", x.cell(kept - 1, 0, 0), 0);
        }
        CHECK.noIndex("cell of one too many", () -> x.cell(kept, 0, 0));
    }

    private static void cellsOfKeptObjects() {
        CHECK.under("Of cell k of the i-th KEPT object: IndexOutOfBoundsException; IllegalArgumentException when what"
                + " is none of these");
        ThriftyStores x = Kinds.program(in(Kinds.MAKE, 9, 16, 0), in(Kinds.MAKE, 1, 1, 1), in(Kinds.MAKE, 9, 2, 0),
                in(Kinds.MAKE, 2, 16, 1), in(Kinds.NUMBER, 3, 15), in(Kinds.SHIFT, 4, 2, 3), in(Kinds.STORE, 1, 4),
                in(Kinds.NUMBER, 5, MIN), in(Kinds.STORE, 4, 5), in(Kinds.STORE, 2, 9));
        CHECK.noIndex("cell(0, 0, 0) before a run", () -> x.cell(0, 0, 0));
        dueRun(x, 99, HALTED, 10);
        dueCell(x, 0, 0, 1, 3, 15);
        dueCell(x, 1, 0, 1, 2, 0);
        dueCell(x, 1, 1, 0, 0, 0);
        dueCell(x, 1, 15, 0, MIN, 0);
        int[][] noIndex = {{-1, 0}, {2, 0}, {3, 0}, {MIN, 0}, {MAX, 0}, {0, -1}, {0, 1}, {1, -1}, {1, 16}, {1, MAX},
            {1, MIN}, {300, 0}, {299, 15}};
        for (int[] at : noIndex) {
            for (int what = -1; what < 4; what++) {
                int part = what;
                CHECK.noIndex("cell(" + at[0] + ", " + at[1] + ", " + part + ")", () -> x.cell(at[0], at[1], part));
            }
        }
        int[] noPart = {-1, 3, MIN, MAX};
        for (int what : noPart) {
            CHECK.noArgument("cell(0, 0, " + what + ")", () -> x.cell(0, 0, what));
            CHECK.noArgument("cell(1, 15, " + what + ")", () -> x.cell(1, 15, what));
        }
    }

    private static void dueCell(ThriftyStores x, int i, int k, int address, int first, int place) {
        CHECK.due("cell(" + i + ", " + k + ", 0)", x.cell(i, k, 0), address);
        CHECK.due("cell(" + i + ", " + k + ", 1)", x.cell(i, k, 1), first);
        CHECK.due("cell(" + i + ", " + k + ", 2)", x.cell(i, k, 2), place);
    }

    private static void theLastRunAlone() {
        CHECK.under("the last run");
        ThriftyStores x = Kinds.program(in(Kinds.MAKE, 1, 2, 1), in(Kinds.MAKE, 2, 2, 1), in(Kinds.PRINT, 0));
        dueRun(x, 9, HALTED, 3);
        CHECK.due("kept()", x.kept(), 2);
        x.clear();
        dueRun(x, 9, HALTED, 0);
        CHECK.due("kept() behind the run of an empty program", x.kept(), 0);
        CHECK.due("printed() behind the run of an empty program", x.printed(), 0);
        CHECK.noIndex("print(0) behind it", () -> x.print(0));
        CHECK.noIndex("cell(0, 0, 0) behind it", () -> x.cell(0, 0, 0));
        Kinds.write(x, in(Kinds.MAKE, 1, 1, 1));
        dueRun(x, 9, HALTED, 1);
        CHECK.due("kept()", x.kept(), 1);
        CHECK.noIndex("cell(0, 1, 0): the object has one cell now", () -> x.cell(0, 1, 0));
    }
}
