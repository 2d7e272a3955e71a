import java.util.ArrayList;
import java.util.List;

/**
 * Promises 4 and 6 to 18: made-up programs, the same in each run of this test, looked through, made thrifty and
 * run; each answer must be the plain model's, and the thrifty program must print and end as the written one.
 */
public final class ModelTest {
    private static final Check CHECK = new Check("ModelTest");
    private static long seed = 20261115L;
    private static int changes = 0;
    private static int[] ends = new int[4];
    private static int mostRounds = 0;

    private ModelTest() {
    }

    public static void main(String[] args) {
        int programs = args.length > 0 ? Integer.parseInt(args[0]) : 1500;
        ThriftyStores used = new ThriftyStores();
        for (int k = 0; k < programs; k++) {
            int length = k % 50 == 0 ? 120 + next(81) : next(45);
            int registers = k % 7 == 0 ? 16 : 2 + next(6);
            List<int[]> program = madeUp(length, registers, k % 3 == 0);
            used.clear();
            for (int[] in : program) {
                used.add(in[0], in[1], in[2], in[3]);
            }
            compare(used, program);
        }
        CHECK.due("programs changed something", changes > programs, true);
        for (int end = 0; end < 3; end++) {
            CHECK.due("runs ended by " + end, ends[end] > programs / 50, true);
        }
        CHECK.due("some programs need three rounds", mostRounds >= 3, true);
        CHECK.end();
    }

    private static int next(int bound) {
        seed = seed * 6364136223846793005L + 1442695040888963407L;
        return (int) ((seed >>> 33) % bound);
    }

    private static List<int[]> madeUp(int length, int registers, boolean loops) {
        List<int[]> program = new ArrayList<>();
        int[] kinds = {0, 1, 1, 2, 3, 4, 5, 6, 7, 7, 8, 8, 9, 9, 9, 9, 10, 10, 10, 10, 10, 10, 11, 12, 13, 13, 14, 15};
        int makes = Math.min(length / 2, 1 + next(registers));
        for (int i = 0; i < length; i++) {
            int kind = i < makes ? Kinds.MAKE : kinds[next(kinds.length)];
            if (kind == Kinds.HALT && next(4) != 0) {
                kind = Kinds.STORE;
            }
            program.add(madeUpInstruction(kind, i, length, registers, loops));
        }
        return program;
    }

    private static int[] madeUpInstruction(int kind, int i, int length, int registers, boolean loops) {
        int a = next(registers);
        int b = next(registers);
        int c = next(registers);
        int target = loops && next(2) == 0 ? next(length + 3) : i + 1 + next(6);
        switch (kind) {
            case Kinds.NUMBER:
                return new int[] {kind, a, next(5) == 0 ? next(65536) << 16 | next(65536) : next(4) - 1, 0};
            case Kinds.MOVE:
            case Kinds.LOAD:
            case Kinds.STORE:
                return new int[] {kind, a, b, 0};
            case Kinds.MAKE:
                return new int[] {kind, a, 1 + next(next(3) == 0 ? 16 : 3), next(4) == 0 ? 1 : 0};
            case Kinds.PRINT:
                return new int[] {kind, a, 0, 0};
            case Kinds.JUMP:
                return new int[] {kind, Math.min(target, 200), 0, 0};
            case Kinds.IF:
                return new int[] {kind, a, Math.min(target, 200), 0};
            case Kinds.HALT:
            case Kinds.NOTHING:
                return new int[] {kind, 0, 0, 0};
            default:
                return new int[] {kind, a, b, c};
        }
    }

    private static void compare(ThriftyStores x, List<int[]> program) {
        int steps = 1 + next(400);
        compareRun(x, program, true, steps);
        PlainModel.Thrifty thrifty = new PlainModel.Thrifty(program);
        CHECK.due("thrift()", x.thrift(), thrifty.changes);
        CHECK.due("rounds()", x.rounds(), thrifty.rounds);
        for (int i = 0; i < program.size(); i++) {
            CHECK.due("fate(" + i + ")", x.fate(i), thrifty.fates[i]);
            for (int what = 0; what < 4; what++) {
                CHECK.due("instruction of the written", x.instruction(i, what, true), program.get(i)[what]);
                CHECK.due("instruction of the thrifty", x.instruction(i, what, false), thrifty.program.get(i)[what]);
            }
        }
        compareKnowledge(x, new PlainModel(program));
        compareRun(x, program, true, steps);
        compareRun(x, thrifty.program, false, steps);
        compareRunOfBoth(program, thrifty.program, steps);
        changes += thrifty.changes;
        mostRounds = Math.max(mostRounds, thrifty.rounds);
    }

    private static void compareKnowledge(ThriftyStores x, PlainModel model) {
        for (int i = 0; i <= model.size; i++) {
            CHECK.due("fact(" + i + ", 3, 0, 0)", x.fact(i, 3, 0, 0), model.reached[i]);
            for (int r = 0; r < 16; r++) {
                CHECK.due("fact(" + i + ", 2, " + r + ", 0)", x.fact(i, 2, r, 0), model.sure[i][r]);
                CHECK.due("free(" + i + ", " + r + ")", x.free(i, r), model.free[i][r]);
                for (int s = 0; s < 16; s++) {
                    String pair = r + ", " + s + ")";
                    CHECK.due("fact(" + i + ", 0, " + pair, x.fact(i, 0, r, s), model.equal[i][r][s]);
                    CHECK.due("fact(" + i + ", 1, " + pair, x.fact(i, 1, r, s), model.holds[i][r][s]);
                }
            }
        }
        for (int i = 0; i < model.size; i++) {
            for (int r = 0; r < 16; r++) {
                CHECK.due("may(" + r + ", " + i + ")", x.may(r, i), model.may.get(r).contains(i));
            }
            for (int site = 0; site < model.size; site++) {
                CHECK.due("inside(" + site + ", " + i + ")", x.inside(site, i), model.cells.get(site).contains(i));
            }
        }
    }

    private static void compareRun(ThriftyStores x, List<int[]> program, boolean written, int steps) {
        PlainRun run = new PlainRun(program, steps);
        ends[run.end]++;
        CHECK.due("run(" + written + ", " + steps + ")", x.run(written, steps), run.end);
        CHECK.due("steps()", x.steps(), run.steps);
        CHECK.due("printed()", x.printed(), run.printed.size());
        for (int i = 0; i < run.printed.size(); i++) {
            CHECK.due("print(" + i + ")", x.print(i), run.printed.get(i));
        }
        CHECK.noIndex("print() of one too many", () -> x.print(run.printed.size()));
        int kept = run.end == 0 ? run.keptObjects.size() : 0;
        CHECK.due("kept()", x.kept(), kept);
        for (int i = 0; i < kept; i++) {
            compareCells(x, i, run.objects.get(run.keptObjects.get(i)));
        }
        CHECK.noIndex("cell() of one object too many", () -> x.cell(kept, 0, 0));
    }

    private static void compareCells(ThriftyStores x, int i, Object[] cells) {
        for (int k = 0; k < cells.length; k++) {
            boolean address = cells[k] instanceof PlainRun.Address;
            int first = cells[k] instanceof PlainRun.Address to ? to.object() : (Integer) cells[k];
            int place = cells[k] instanceof PlainRun.Address to ? to.place() : 0;
            CHECK.due("cell(" + i + ", " + k + ", 0)", x.cell(i, k, 0), address ? 1 : 0);
            CHECK.due("cell(" + i + ", " + k + ", 1)", x.cell(i, k, 1), first);
            CHECK.due("cell(" + i + ", " + k + ", 2)", x.cell(i, k, 2), place);
        }
        CHECK.noIndex("cell() of one cell too many", () -> x.cell(i, cells.length, 0));
    }

    /** The document's own claim: what programs print, and how they end, stays. */
    private static void compareRunOfBoth(List<int[]> written, List<int[]> thrifty, int steps) {
        PlainRun before = new PlainRun(written, steps);
        PlainRun after = new PlainRun(thrifty, steps);
        CHECK.due("the end of the thrifty program", after.end, before.end);
        CHECK.due("the steps of the thrifty program", after.steps, before.steps);
        CHECK.due("the prints of the thrifty program", after.printed.equals(before.printed), true);
        if (before.end == 0) {
            for (int object : before.keptObjects) {
                List<Object> was = List.of(before.objects.get(object));
                CHECK.due("a kept object", was.equals(List.of(after.objects.get(object))), true);
            }
        }
    }
}
