/** The bounds of what may be written down: promises 1, 2, 3 and 5, and the terms that name numbers. */
public final class AddBoundsTest {
    private static final Check CHECK = new Check("AddBoundsTest");
    private static final int MIN = Integer.MIN_VALUE;
    private static final int MAX = Integer.MAX_VALUE;

    /** For each kind the least and the greatest a, b and c. */
    private static final int[][] BOUNDS = {
        {0, 15, MIN, MAX, 0, 0}, {0, 15, 0, 15, 0, 0}, {0, 15, 0, 15, 0, 15}, {0, 15, 0, 15, 0, 15},
        {0, 15, 0, 15, 0, 15}, {0, 15, 0, 15, 0, 15}, {0, 15, 0, 15, 0, 15}, {0, 15, 0, 15, 0, 15},
        {0, 15, 1, 16, 0, 1}, {0, 15, 0, 15, 0, 0}, {0, 15, 0, 15, 0, 0}, {0, 15, 0, 0, 0, 0},
        {0, 200, 0, 0, 0, 0}, {0, 15, 0, 200, 0, 0}, {0, 0, 0, 0, 0, 0}, {0, 0, 0, 0, 0, 0}};

    private AddBoundsTest() {
    }

    public static void main(String[] args) {
        aNewObjectIsEmpty();
        justInsideIsWritten();
        justOutsideIsRefused();
        thereAreSixteenKinds();
        twoHundredInstructions();
        theFirstNamedExceptionIsThrown();
        clearingTheEmptyTheFullAndTheThrifty();
        CHECK.end();
    }

    private static String named(int kind, int a, int b, int c) {
        return "add(" + kind + ", " + a + ", " + b + ", " + c + ")";
    }

    private static void aNewObjectIsEmpty() {
        CHECK.under("An empty program, not made thrifty, never run");
        ThriftyStores x = new ThriftyStores();
        CHECK.due("size()", x.size(), 0);
        CHECK.noIndex("instruction(0, 0, true)", () -> x.instruction(0, 0, true));
        CHECK.noState("rounds()", x::rounds);
        CHECK.noState("run(false, 1)", () -> x.run(false, 1));
        CHECK.noState("fact(0, 3, 0, 0)", () -> Check.bit(x.fact(0, 3, 0, 0)));
        CHECK.noState("free(0, 0)", () -> Check.bit(x.free(0, 0)));
        CHECK.due("steps()", x.steps(), 0);
        CHECK.due("printed()", x.printed(), 0);
        CHECK.due("kept()", x.kept(), 0);
        CHECK.noIndex("print(0)", () -> x.print(0));
        CHECK.noIndex("cell(0, 0, 0)", () -> x.cell(0, 0, 0));
        CHECK.due("the first add", x.add(Kinds.NOTHING, 0, 0, 0), 0);
    }

    private static void justInsideIsWritten() {
        CHECK.under("KINDS (with a, b, c; what is not named is 0)");
        for (int kind = 0; kind < BOUNDS.length; kind++) {
            ThriftyStores x = new ThriftyStores();
            for (int corner = 0; corner < 8; corner++) {
                int a = bound(kind, 0, corner & 1);
                int b = bound(kind, 1, corner >> 1 & 1);
                int c = bound(kind, 2, corner >> 2);
                CHECK.due(named(kind, a, b, c), x.add(kind, a, b, c), corner);
                CHECK.due("size()", x.size(), corner + 1);
                int[] want = {kind, a, b, c};
                for (int what = 0; what < 4; what++) {
                    CHECK.due("part " + what + " of " + named(kind, a, b, c), x.instruction(corner, what, true),
                            want[what]);
                }
            }
        }
    }

    private static int bound(int kind, int part, int side) {
        return BOUNDS[kind][2 * part + side];
    }

    private static void justOutsideIsRefused() {
        CHECK.under("IllegalArgumentException when a number is none that may stand there");
        for (int kind = 0; kind < BOUNDS.length; kind++) {
            for (int part = 0; part < 3; part++) {
                int low = bound(kind, part, 0);
                int high = bound(kind, part, 1);
                if (low > MIN) {
                    refusesWith(kind, part, low - 1);
                    refusesWith(kind, part, MIN);
                }
                if (high < MAX) {
                    refusesWith(kind, part, high + 1);
                    refusesWith(kind, part, MAX);
                }
            }
        }
    }

    /** One part is the wrong number given, the two others stand on either of their bounds. */
    private static void refusesWith(int kind, int part, int wrong) {
        for (int side = 0; side < 2; side++) {
            int a = part == 0 ? wrong : bound(kind, 0, side);
            int b = part == 1 ? wrong : bound(kind, 1, side);
            int c = part == 2 ? wrong : bound(kind, 2, side);
            refuses(kind, a, b, c);
        }
    }

    private static void refuses(int kind, int a, int b, int c) {
        ThriftyStores x = Kinds.program(Kinds.in(Kinds.HALT));
        CHECK.noArgument(named(kind, a, b, c), () -> x.add(kind, a, b, c));
        CHECK.due("size() behind " + named(kind, a, b, c), x.size(), 1);
        CHECK.due("the next add behind " + named(kind, a, b, c), x.add(Kinds.NOTHING, 0, 0, 0), 1);
        CHECK.due("its kind", x.instruction(1, 0, true), Kinds.NOTHING);
    }

    private static void thereAreSixteenKinds() {
        CHECK.under("IllegalArgumentException when there is no such kind");
        int[] none = {-1, 16, 17, MIN, MAX, 256, 65536};
        for (int kind : none) {
            refuses(kind, 0, 0, 0);
            refuses(kind, 0, 1, 0);
        }
    }

    private static void twoHundredInstructions() {
        CHECK.under("numbered from 0 on, 200 at most; IllegalStateException when there are 200");
        ThriftyStores x = new ThriftyStores();
        for (int i = 0; i < 200; i++) {
            CHECK.due("add of " + i, x.add(Kinds.NUMBER, i % 16, i, 0), i);
        }
        CHECK.due("size()", x.size(), 200);
        CHECK.noState("the 201st add", () -> x.add(Kinds.NUMBER, 3, 3, 0));
        CHECK.due("size() behind it", x.size(), 200);
        CHECK.due("instruction(0, 2, true)", x.instruction(0, 2, true), 0);
        CHECK.due("instruction(199, 2, true)", x.instruction(199, 2, true), 199);
        CHECK.noIndex("instruction(200, 2, true)", () -> x.instruction(200, 2, true));
        CHECK.due("run(true, 200)", x.run(true, 200), 0);
        CHECK.due("steps()", x.steps(), 200);
    }

    private static void theFirstNamedExceptionIsThrown() {
        CHECK.under("where several exceptions that a call names fit, the one named first is thrown");
        ThriftyStores full = new ThriftyStores();
        for (int i = 0; i < 200; i++) {
            full.add(Kinds.NOTHING, 0, 0, 0);
        }
        ThriftyStores thrifty = Kinds.thrifty(Kinds.in(Kinds.HALT));
        ThriftyStores[] both = {full, thrifty};
        for (ThriftyStores x : both) {
            int had = x.size();
            CHECK.noState("add(15, 0, 0, 0)", () -> x.add(15, 0, 0, 0));
            CHECK.noArgument("add(16, 0, 0, 0)", () -> x.add(16, 0, 0, 0));
            CHECK.noArgument("add(-1, 0, 0, 0)", () -> x.add(-1, 0, 0, 0));
            CHECK.noArgument("add(1, 16, 0, 0)", () -> x.add(1, 16, 0, 0));
            CHECK.noArgument("add(8, 1, 17, 0)", () -> x.add(8, 1, 17, 0));
            CHECK.noArgument("add(15, 0, 0, 1)", () -> x.add(15, 0, 0, 1));
            CHECK.due("size()", x.size(), had);
        }
    }

    private static void clearingTheEmptyTheFullAndTheThrifty() {
        CHECK.under("The program is empty, and not made thrifty: how many instructions it had");
        ThriftyStores x = new ThriftyStores();
        CHECK.due("clear() of the empty program", x.clear(), 0);
        x.thrift();
        CHECK.due("clear() of the empty thrifty program", x.clear(), 0);
        CHECK.noState("rounds()", x::rounds);
        CHECK.due("thrift() behind clear", x.thrift(), 0);
        x.clear();
        for (int i = 0; i < 200; i++) {
            CHECK.due("add of " + i, x.add(Kinds.NOTHING, 0, 0, 0), i);
        }
        CHECK.due("clear() of the full program", x.clear(), 200);
        CHECK.due("size()", x.size(), 0);
        CHECK.due("clear() again", x.clear(), 0);
        CHECK.due("add behind clear", x.add(Kinds.HALT, 0, 0, 0), 0);
        x.thrift();
        CHECK.noState("add behind thrift", () -> x.add(Kinds.HALT, 0, 0, 0));
        CHECK.due("clear() of the thrifty program", x.clear(), 1);
        CHECK.due("add behind that", x.add(Kinds.NOTHING, 0, 0, 0), 0);
        CHECK.noState("instruction(0, 0, false)", () -> x.instruction(0, 0, false));
        CHECK.noState("fate(0)", () -> x.fate(0));
        CHECK.noState("may(0, 0)", () -> Check.bit(x.may(0, 0)));
        CHECK.noState("inside(0, 0)", () -> Check.bit(x.inside(0, 0)));
        CHECK.noState("fact(1, 3, 0, 0)", () -> Check.bit(x.fact(1, 3, 0, 0)));
        CHECK.noState("free(1, 0)", () -> Check.bit(x.free(1, 0)));
        CHECK.noState("run(false, 1)", () -> x.run(false, 1));
    }
}
