/** The bounds of what may be asked of a program: promises 4 and 6 to 12, of the empty one and of the full one too. */
public final class QuestionBoundsTest {
    private static final Check CHECK = new Check("QuestionBoundsTest");
    private static final int MIN = Integer.MIN_VALUE;
    private static final int MAX = Integer.MAX_VALUE;

    private QuestionBoundsTest() {
    }

    public static void main(String[] args) {
        thriftOnce();
        thriftOfTheEmptyProgram();
        thriftOfTheFullProgram();
        instructionParts();
        fates();
        roundsOfTheThrifty();
        mayOfRegisters();
        insideOfSites();
        factsOfPoints();
        whatMustBeZero();
        freeRegisters();
        whereNoneIsAnyMore();
        whatNobodyReaches();
        theFirstNamedExceptionIsThrown();
        CHECK.end();
    }

    private static int[] in(int... row) {
        return Kinds.in(row);
    }

    private static int[][] threeInstructions() {
        return new int[][] {in(Kinds.MAKE, 15, 16, 1), in(Kinds.MAKE, 0, 1), in(Kinds.STORE, 0, 15)};
    }

    private static ThriftyStores fullOfLoads() {
        ThriftyStores x = Kinds.program(in(Kinds.MAKE, 1, 1), in(Kinds.STORE, 1, 2));
        for (int i = 2; i < 199; i++) {
            Kinds.write(x, in(Kinds.LOAD, 3 + i % 13, 1));
        }
        Kinds.write(x, in(Kinds.STORE, 1, 2));
        return x;
    }

    private static void thriftOnce() {
        CHECK.under("Makes it thrifty: IllegalStateException when it was");
        ThriftyStores x = Kinds.program(threeInstructions());
        CHECK.due("thrift()", x.thrift(), 1);
        for (int times = 0; times < 2; times++) {
            CHECK.noState("thrift() again", x::thrift);
            CHECK.due("rounds() behind it", x.rounds(), 2);
            CHECK.due("fate(2) behind it", x.fate(2), 3);
            CHECK.due("instruction(2, 0, false) behind it", x.instruction(2, 0, false), Kinds.NOTHING);
        }
        x.clear();
        CHECK.due("thrift() behind clear", x.thrift(), 0);
        CHECK.noState("thrift() again behind clear", x::thrift);
    }

    private static void thriftOfTheEmptyProgram() {
        CHECK.under("thrift, of the empty program");
        ThriftyStores x = new ThriftyStores();
        CHECK.due("thrift()", x.thrift(), 0);
        CHECK.due("rounds()", x.rounds(), 1);
        CHECK.due("size()", x.size(), 0);
        CHECK.noIndex("fate(0)", () -> x.fate(0));
        CHECK.noIndex("instruction(0, 0, false)", () -> x.instruction(0, 0, false));
        CHECK.noIndex("may(0, 0)", () -> Check.bit(x.may(0, 0)));
        CHECK.noIndex("inside(0, 0)", () -> Check.bit(x.inside(0, 0)));
        CHECK.due("0 can be reached", x.fact(0, 3, 0, 0), true);
        CHECK.noIndex("fact(1, 3, 0, 0)", () -> Check.bit(x.fact(1, 3, 0, 0)));
        CHECK.noIndex("free(1, 0)", () -> Check.bit(x.free(1, 0)));
        for (int r = 0; r < 16; r++) {
            int s = 15 - r;
            CHECK.due("EQUAL(" + r + ", " + s + ")", x.fact(0, 0, r, s), true);
            CHECK.due("EQUAL(" + r + ", " + r + ")", x.fact(0, 0, r, r), false);
            CHECK.due("HOLDS(" + r + ", " + s + ")", x.fact(0, 1, r, s), false);
            CHECK.due("SURE(" + r + ")", x.fact(0, 2, r, 0), false);
            CHECK.due("free(0, " + r + ")", x.free(0, r), true);
        }
    }

    private static void thriftOfTheFullProgram() {
        CHECK.under("thrift, of 200 instructions");
        ThriftyStores x = fullOfLoads();
        CHECK.due("thrift()", x.thrift(), 199);
        CHECK.due("rounds()", x.rounds(), 2);
        CHECK.due("fate(1)", x.fate(1), 3);
        CHECK.due("fate(2)", x.fate(2), 1);
        CHECK.due("fate(198)", x.fate(198), 1);
        CHECK.due("fate(199)", x.fate(199), 2);
        CHECK.due("instruction(198, 0, false)", x.instruction(198, 0, false), Kinds.MOVE);
        CHECK.due("instruction(199, 0, false)", x.instruction(199, 0, false), Kinds.NOTHING);
        CHECK.due("instruction(199, 0, true)", x.instruction(199, 0, true), Kinds.STORE);
        CHECK.due("run(false, 200)", x.run(false, 200), 0);
        CHECK.due("steps()", x.steps(), 200);
    }

    private static void instructionParts() {
        CHECK.under("Of an instruction: IndexOutOfBoundsException; IllegalArgumentException when what is none of these;"
                + " IllegalStateException when it was not made thrifty, of that");
        ThriftyStores x = Kinds.program(threeInstructions());
        int[] noPart = {-1, 4, MIN, MAX};
        int[] none = {-1, 3, 199, 200, MIN, MAX};
        for (int times = 0; times < 2; times++) {
            CHECK.due("instruction(0, 0, true)", x.instruction(0, 0, true), Kinds.MAKE);
            CHECK.due("instruction(0, 3, true)", x.instruction(0, 3, true), 1);
            CHECK.due("instruction(2, 0, true)", x.instruction(2, 0, true), Kinds.STORE);
            CHECK.due("instruction(2, 2, true)", x.instruction(2, 2, true), 15);
            CHECK.due("instruction(2, 3, true)", x.instruction(2, 3, true), 0);
            for (int i : none) {
                CHECK.noIndex("instruction(" + i + ", 0, true)", () -> x.instruction(i, 0, true));
                CHECK.noIndex("instruction(" + i + ", 3, false)", () -> x.instruction(i, 3, false));
            }
            for (int what : noPart) {
                CHECK.noArgument("instruction(0, " + what + ", true)", () -> x.instruction(0, what, true));
                CHECK.noArgument("instruction(2, " + what + ", false)", () -> x.instruction(2, what, false));
            }
            if (times == 0) {
                CHECK.noState("instruction(0, 0, false)", () -> x.instruction(0, 0, false));
                CHECK.noState("instruction(2, 3, false)", () -> x.instruction(2, 3, false));
                x.thrift();
            }
        }
        CHECK.due("instruction(0, 0, false)", x.instruction(0, 0, false), Kinds.MAKE);
        CHECK.due("instruction(0, 3, false)", x.instruction(0, 3, false), 1);
        for (int what = 0; what < 4; what++) {
            CHECK.due("instruction(2, " + what + ", false)", x.instruction(2, what, false),
                    what == 0 ? Kinds.NOTHING : 0);
        }
    }

    private static void fates() {
        CHECK.under("What became of an instruction last: IndexOutOfBoundsException; IllegalStateException when it was"
                + " not made thrifty");
        ThriftyStores x = Kinds.program(threeInstructions());
        CHECK.noState("fate(0)", () -> x.fate(0));
        CHECK.noState("fate(2)", () -> x.fate(2));
        int[] none = {-1, 3, 199, 200, MIN, MAX};
        for (int times = 0; times < 2; times++) {
            for (int i : none) {
                CHECK.noIndex("fate(" + i + ")", () -> x.fate(i));
            }
            if (times == 0) {
                x.thrift();
            }
        }
        CHECK.due("fate(0)", x.fate(0), 0);
        CHECK.due("fate(2)", x.fate(2), 3);
    }

    private static void roundsOfTheThrifty() {
        CHECK.under("How many rounds there were, with the last one. IllegalStateException when it was not made"
                + " thrifty");
        ThriftyStores x = Kinds.program(threeInstructions());
        CHECK.noState("rounds()", x::rounds);
        x.run(true, 9);
        CHECK.noState("rounds() behind a run", x::rounds);
        x.thrift();
        CHECK.due("rounds()", x.rounds(), 2);
        x.clear();
        CHECK.noState("rounds() behind clear", x::rounds);
        Kinds.write(x, in(Kinds.HALT));
        x.thrift();
        CHECK.due("rounds() when nothing is changed", x.rounds(), 1);
    }

    private static void mayOfRegisters() {
        CHECK.under("whether MAY(register) has the instruction. IndexOutOfBoundsException; IllegalStateException when"
                + " it was not made thrifty");
        ThriftyStores x = Kinds.program(threeInstructions());
        CHECK.noState("may(0, 0)", () -> Check.bit(x.may(0, 0)));
        CHECK.noState("may(15, 2)", () -> Check.bit(x.may(15, 2)));
        int[][] none = {{-1, 0}, {16, 0}, {MIN, 0}, {MAX, 0}, {0, -1}, {0, 3}, {15, 200}, {0, MIN}, {0, MAX}, {16, 3}};
        for (int times = 0; times < 2; times++) {
            for (int[] p : none) {
                CHECK.noIndex("may(" + p[0] + ", " + p[1] + ")", () -> Check.bit(x.may(p[0], p[1])));
            }
            if (times == 0) {
                x.thrift();
            }
        }
        CHECK.due("may(15, 0)", x.may(15, 0), true);
        CHECK.due("may(0, 1)", x.may(0, 1), true);
        CHECK.due("may(0, 0)", x.may(0, 0), false);
        CHECK.due("may(15, 2), which is no site", x.may(15, 2), false);
    }

    private static void insideOfSites() {
        CHECK.under("Likewise whether CELLS(site) has the instruction; of one that is no site nothing");
        ThriftyStores x = Kinds.program(threeInstructions());
        CHECK.noState("inside(0, 0)", () -> Check.bit(x.inside(0, 0)));
        CHECK.noState("inside(2, 2)", () -> Check.bit(x.inside(2, 2)));
        int[][] none = {{-1, 0}, {3, 0}, {MIN, 0}, {MAX, 0}, {200, 0}, {0, -1}, {0, 3}, {2, 200}, {0, MIN}, {0, MAX}};
        for (int times = 0; times < 2; times++) {
            for (int[] p : none) {
                CHECK.noIndex("inside(" + p[0] + ", " + p[1] + ")", () -> Check.bit(x.inside(p[0], p[1])));
            }
            if (times == 0) {
                x.thrift();
            }
        }
        for (int site = 0; site < 3; site++) {
            for (int i = 0; i < 3; i++) {
                CHECK.due("inside(" + site + ", " + i + ")", x.inside(site, i), site == 1 && i == 0);
            }
        }
        ThriftyStores full = new ThriftyStores();
        for (int i = 0; i < 198; i++) {
            full.add(Kinds.NOTHING, 0, 0, 0);
        }
        Kinds.write(full, in(Kinds.STORE, 15, 15), in(Kinds.MAKE, 15, 1));
        full.thrift();
        CHECK.due("may(15, 199)", full.may(15, 199), true);
        CHECK.due("inside(199, 199)", full.inside(199, 199), true);
        CHECK.due("inside(198, 199)", full.inside(198, 199), false);
        CHECK.noIndex("may(15, 200)", () -> Check.bit(full.may(15, 200)));
        CHECK.noIndex("inside(200, 199)", () -> Check.bit(full.inside(200, 199)));
    }

    private static void factsOfPoints() {
        CHECK.under("before instruction i (size(): where none is any more)");
        ThriftyStores x = Kinds.program(threeInstructions());
        int[][] none = {{-1, 0, 0}, {4, 0, 0}, {201, 0, 0}, {MIN, 0, 0}, {MAX, 0, 0}, {0, -1, 0}, {0, 16, 0},
            {3, MIN, 0}, {3, MAX, 0}, {0, 0, -1}, {0, 0, 16}, {3, 0, MIN}, {3, 0, MAX}};
        for (int times = 0; times < 2; times++) {
            for (int[] p : none) {
                for (int what = -1; what <= 4; what++) {
                    int asked = what;
                    CHECK.noIndex("fact(" + p[0] + ", " + asked + ", " + p[1] + ", " + p[2] + ")",
                            () -> Check.bit(x.fact(p[0], asked, p[1], p[2])));
                }
            }
            if (times == 0) {
                x.thrift();
            }
        }
        CHECK.due("fact(0, 0, 0, 15)", x.fact(0, 0, 0, 15), true);
        CHECK.due("fact(0, 2, 15, 0)", x.fact(0, 2, 15, 0), false);
        CHECK.due("fact(1, 2, 15, 0)", x.fact(1, 2, 15, 0), true);
        CHECK.due("fact(2, 1, 0, 15)", x.fact(2, 1, 0, 15), false);
        CHECK.due("fact(3, 1, 0, 15)", x.fact(3, 1, 0, 15), true);
        CHECK.due("fact(3, 3, 0, 0)", x.fact(3, 3, 0, 0), true);
        ThriftyStores full = fullOfLoads();
        full.thrift();
        CHECK.due("fact(199, 1, 1, 2)", full.fact(199, 1, 1, 2), true);
        CHECK.due("fact(200, 1, 1, 2)", full.fact(200, 1, 1, 2), true);
        CHECK.due("fact(200, 3, 0, 0)", full.fact(200, 3, 0, 0), true);
        CHECK.noIndex("fact(201, 3, 0, 0)", () -> Check.bit(full.fact(201, 3, 0, 0)));
    }

    private static void whatMustBeZero() {
        CHECK.under("IllegalArgumentException when what is none of these, or what must be 0 is not");
        ThriftyStores x = Kinds.program(threeInstructions());
        int[][] refused = {{-1, 0, 0}, {4, 0, 0}, {MIN, 0, 0}, {MAX, 0, 0}, {4, 15, 15}, {2, 0, 1}, {2, 15, 15},
            {3, 1, 0}, {3, 15, 0}, {3, 0, 1}, {3, 0, 15}, {3, 1, 1}};
        for (int times = 0; times < 2; times++) {
            for (int[] p : refused) {
                for (int i = 0; i <= 3; i += 3) {
                    int point = i;
                    CHECK.noArgument("fact(" + point + ", " + p[0] + ", " + p[1] + ", " + p[2] + ")",
                            () -> Check.bit(x.fact(point, p[0], p[1], p[2])));
                }
            }
            if (times == 0) {
                x.thrift();
            }
        }
        CHECK.due("fact(3, 2, 15, 0)", x.fact(3, 2, 15, 0), true);
        CHECK.due("fact(3, 3, 0, 0)", x.fact(3, 3, 0, 0), true);
        CHECK.due("fact(3, 1, 15, 15)", x.fact(3, 1, 15, 15), false);
    }

    private static void freeRegisters() {
        CHECK.under("Likewise whether r is free behind instruction i, that can be reached (size(): where none is any"
                + " more)");
        ThriftyStores x = Kinds.program(threeInstructions());
        CHECK.noState("free(0, 0)", () -> Check.bit(x.free(0, 0)));
        CHECK.noState("free(3, 15)", () -> Check.bit(x.free(3, 15)));
        int[][] none = {{-1, 0}, {4, 0}, {201, 0}, {MIN, 0}, {MAX, 0}, {0, -1}, {0, 16}, {3, 16}, {0, MIN}, {0, MAX}};
        for (int times = 0; times < 2; times++) {
            for (int[] p : none) {
                CHECK.noIndex("free(" + p[0] + ", " + p[1] + ")", () -> Check.bit(x.free(p[0], p[1])));
            }
            if (times == 0) {
                x.thrift();
            }
        }
        CHECK.due("free(2, 0)", x.free(2, 0), true);
        CHECK.due("free(2, 15)", x.free(2, 15), false);
        CHECK.due("free(3, 0)", x.free(3, 0), true);
        CHECK.due("free(3, 15)", x.free(3, 15), false);
        CHECK.due("free(0, 0), which 1 sets", x.free(0, 0), false);
        ThriftyStores full = fullOfLoads();
        full.thrift();
        CHECK.due("free(199, 1)", full.free(199, 1), true);
        CHECK.due("free(198, 1)", full.free(198, 1), true);
        CHECK.due("free(197, 1)", full.free(197, 1), false);
        CHECK.due("free(200, 1)", full.free(200, 1), true);
        CHECK.noIndex("free(201, 1)", () -> Check.bit(full.free(201, 1)));
    }

    private static void whereNoneIsAnyMore() {
        CHECK.under("the place where none is any more is a point like them");
        int[] beyond = {5, 6, 199, 200};
        for (int target : beyond) {
            // Both ways end there, one by a JUMP or an IF, one behind the last instruction: what both bring stays.
            ThriftyStores x = Kinds.thrifty(in(Kinds.MAKE, 1, 1, 1), in(Kinds.STORE, 1, 2), in(Kinds.IF, 3, target),
                    in(Kinds.NUMBER, 4, 4), in(Kinds.MAKE, 5, 1));
            CHECK.due("reached", x.fact(5, 3, 0, 0), true);
            CHECK.due("HOLDS(1, 2)", x.fact(5, 1, 1, 2), true);
            CHECK.due("EQUAL(2, 3)", x.fact(5, 0, 2, 3), true);
            CHECK.due("EQUAL(2, 4)", x.fact(5, 0, 2, 4), false);
            CHECK.due("SURE(1)", x.fact(5, 2, 1, 0), true);
            CHECK.due("SURE(5)", x.fact(5, 2, 5, 0), false);
            CHECK.due("free(5, 1)", x.free(5, 1), false);
            CHECK.due("free(5, 5)", x.free(5, 5), true);
            CHECK.due("free(2, 5), which 4 sets", x.free(2, 5), false);
            ThriftyStores y = Kinds.thrifty(in(Kinds.MAKE, 1, 1), in(Kinds.JUMP, target), in(Kinds.HALT),
                    in(Kinds.HALT), in(Kinds.HALT));
            CHECK.due("reached by a JUMP", y.fact(5, 3, 0, 0), true);
            CHECK.due("SURE(1)", y.fact(5, 2, 1, 0), true);
            CHECK.due("free(1, 1)", y.free(1, 1), true);
            CHECK.due("free(5, 1)", y.free(5, 1), true);
        }
        ThriftyStores full = new ThriftyStores();
        Kinds.write(full, in(Kinds.MAKE, 15, 1, 1), in(Kinds.JUMP, 200));
        for (int i = 2; i < 200; i++) {
            full.add(Kinds.HALT, 0, 0, 0);
        }
        full.thrift();
        CHECK.due("fact(200, 3, 0, 0)", full.fact(200, 3, 0, 0), true);
        CHECK.due("fact(200, 2, 15, 0)", full.fact(200, 2, 15, 0), true);
        CHECK.due("fact(199, 3, 0, 0)", full.fact(199, 3, 0, 0), false);
        CHECK.due("free(200, 15)", full.free(200, 15), false);
        CHECK.due("free(200, 14)", full.free(200, 14), true);
    }

    private static void whatNobodyReaches() {
        CHECK.under("WHAT IS KNOWN before each instruction that can be REACHED, and there alone");
        int[][][] programs = {{in(Kinds.HALT)}, {in(Kinds.JUMP, 0)}, {in(Kinds.IF, 0, 0), in(Kinds.HALT)},
            {in(Kinds.NOTHING), in(Kinds.JUMP, 1)}};
        for (int[][] rows : programs) {
            ThriftyStores x = Kinds.thrifty(rows);
            int end = rows.length;
            CHECK.due("the first is reached", x.fact(0, 3, 0, 0), true);
            CHECK.due("the last is reached", x.fact(end - 1, 3, 0, 0), true);
            CHECK.due("fact(size(), 3, 0, 0)", x.fact(end, 3, 0, 0), false);
            for (int r = 0; r < 16; r++) {
                CHECK.due("EQUAL there", x.fact(end, 0, r, 15 - r), false);
                CHECK.due("HOLDS there", x.fact(end, 1, r, r), false);
                CHECK.due("SURE there", x.fact(end, 2, r, 0), false);
                CHECK.due("free there", x.free(end, r), false);
                CHECK.due("free behind the first", x.free(0, r), true);
            }
        }
        ThriftyStores skipped = Kinds.thrifty(in(Kinds.JUMP, 2), in(Kinds.NOTHING), in(Kinds.NOTHING));
        boolean[] reached = {true, false, true, true};
        for (int i = 0; i < reached.length; i++) {
            CHECK.due("fact(" + i + ", 3, 0, 0)", skipped.fact(i, 3, 0, 0), reached[i]);
            CHECK.due("fact(" + i + ", 0, 0, 15)", skipped.fact(i, 0, 0, 15), reached[i]);
            CHECK.due("free(" + i + ", 15)", skipped.free(i, 15), reached[i]);
        }
    }

    private static void theFirstNamedExceptionIsThrown() {
        CHECK.under("where several exceptions that a call names fit, the one named first is thrown");
        ThriftyStores x = Kinds.program(threeInstructions());
        CHECK.noIndex("instruction(3, 4, false)", () -> x.instruction(3, 4, false));
        CHECK.noArgument("instruction(2, 4, false)", () -> x.instruction(2, 4, false));
        CHECK.noState("instruction(2, 3, false)", () -> x.instruction(2, 3, false));
        CHECK.noIndex("fate(3)", () -> x.fate(3));
        CHECK.noIndex("may(16, 0)", () -> Check.bit(x.may(16, 0)));
        CHECK.noIndex("inside(3, 0)", () -> Check.bit(x.inside(3, 0)));
        CHECK.noIndex("fact(4, 4, 0, 0)", () -> Check.bit(x.fact(4, 4, 0, 0)));
        CHECK.noArgument("fact(3, 4, 0, 0)", () -> Check.bit(x.fact(3, 4, 0, 0)));
        CHECK.noArgument("fact(3, 3, 1, 0)", () -> Check.bit(x.fact(3, 3, 1, 0)));
        CHECK.noState("fact(3, 3, 0, 0)", () -> Check.bit(x.fact(3, 3, 0, 0)));
        CHECK.noIndex("free(4, 0)", () -> Check.bit(x.free(4, 0)));
        CHECK.noArgument("run(false, 0)", () -> x.run(false, 0));
        CHECK.noState("run(false, 1)", () -> x.run(false, 1));
        x.run(true, 9);
        CHECK.noIndex("cell(1, 0, 3)", () -> x.cell(1, 0, 3));
        CHECK.noArgument("cell(0, 0, 3)", () -> x.cell(0, 0, 3));
    }
}
