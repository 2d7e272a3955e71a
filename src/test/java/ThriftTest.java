/** Promises 4, 7 and 8: thrift, fate, rounds. */
public final class ThriftTest {
    private static final Check CHECK = new Check("ThriftTest");

    private ThriftTest() {
    }

    public static void main(String[] args) {
        nothingToDo();
        forwarding();
        theLeastRegister();
        redundant();
        dead();
        notSure();
        notReached();
        deadBehindForwarded();
        severalRounds();
        clearedAndWrittenAgain();
        CHECK.end();
    }

    private static int[] in(int... row) {
        return Kinds.in(row);
    }

    private static void due(ThriftyStores x, int changes, int rounds, int... fates) {
        CHECK.due("thrift()", x.thrift(), changes);
        CHECK.due("rounds()", x.rounds(), rounds);
        for (int i = 0; i < fates.length; i++) {
            CHECK.due("fate(" + i + ")", x.fate(i), fates[i]);
        }
    }

    private static void dueInstruction(ThriftyStores x, int i, int kind, int a, int b) {
        int[] want = {kind, a, b, 0};
        for (int what = 0; what < 4; what++) {
            CHECK.due("instruction(" + i + ", " + what + ", false)", x.instruction(i, what, false), want[what]);
        }
    }

    private static void nothingToDo() {
        due(new ThriftyStores(), 0, 1);
        due(Kinds.program(in(Kinds.PRINT, 1), in(Kinds.HALT)), 0, 1, 0, 0);
    }

    private static void forwarding() {
        ThriftyStores x = Kinds.program(in(Kinds.MAKE, 1, 1, 1), in(Kinds.NUMBER, 2, 5), in(Kinds.STORE, 1, 2),
                in(Kinds.LOAD, 3, 1), in(Kinds.PRINT, 3));
        due(x, 1, 2, 0, 0, 0, 1, 0);
        dueInstruction(x, 3, Kinds.MOVE, 3, 2);
        CHECK.due("instruction(3, 0, true)", x.instruction(3, 0, true), Kinds.LOAD);
    }

    private static void theLeastRegister() {
        ThriftyStores x = Kinds.program(in(Kinds.MAKE, 1, 1, 1), in(Kinds.NUMBER, 9, 5), in(Kinds.STORE, 1, 9),
                in(Kinds.MOVE, 4, 9), in(Kinds.MOVE, 7, 9), in(Kinds.LOAD, 7, 1), in(Kinds.LOAD, 4, 1));
        due(x, 2, 2, 0, 0, 0, 0, 0, 1, 1);
        dueInstruction(x, 5, Kinds.MOVE, 7, 4);
        dueInstruction(x, 6, Kinds.MOVE, 4, 4);
        ThriftyStores top = Kinds.program(in(Kinds.MAKE, 15, 1, 1), in(Kinds.STORE, 15, 15), in(Kinds.LOAD, 0, 15));
        due(top, 1, 2, 0, 0, 1);
        dueInstruction(top, 2, Kinds.MOVE, 0, 15);
    }

    private static void redundant() {
        ThriftyStores x = Kinds.program(in(Kinds.MAKE, 1, 1, 1), in(Kinds.NUMBER, 2, 5), in(Kinds.STORE, 1, 2),
                in(Kinds.MOVE, 3, 1), in(Kinds.MOVE, 4, 2), in(Kinds.STORE, 3, 4));
        due(x, 1, 2, 0, 0, 0, 0, 0, 2);
        dueInstruction(x, 5, Kinds.NOTHING, 0, 0);
        ThriftyStores y = Kinds.program(in(Kinds.MAKE, 1, 1, 1), in(Kinds.LOAD, 2, 1), in(Kinds.STORE, 1, 2));
        due(y, 1, 2, 0, 0, 2);
    }

    private static void dead() {
        ThriftyStores overwritten = Kinds.program(in(Kinds.MAKE, 1, 1, 1), in(Kinds.STORE, 1, 2),
                in(Kinds.NUMBER, 2, 7), in(Kinds.STORE, 1, 2));
        due(overwritten, 1, 2, 0, 3, 0, 0);
        dueInstruction(overwritten, 1, Kinds.NOTHING, 0, 0);
        ThriftyStores nobodyLooks = Kinds.program(in(Kinds.MAKE, 1, 1), in(Kinds.STORE, 1, 2), in(Kinds.HALT));
        due(nobodyLooks, 1, 2, 0, 3, 0);
        ThriftyStores kept = Kinds.program(in(Kinds.MAKE, 1, 1, 1), in(Kinds.STORE, 1, 2), in(Kinds.HALT));
        due(kept, 0, 1, 0, 0, 0);
        ThriftyStores lookedAt = Kinds.program(in(Kinds.MAKE, 1, 2), in(Kinds.SHIFT, 3, 1, 0), in(Kinds.STORE, 1, 2),
                in(Kinds.LOAD, 4, 3), in(Kinds.PRINT, 4));
        due(lookedAt, 0, 1, 0, 0, 0, 0, 0);
    }

    private static void notSure() {
        // Register 1 is no address: the STORE traps, and so must stay.
        ThriftyStores x = Kinds.program(in(Kinds.STORE, 1, 2), in(Kinds.HALT));
        due(x, 0, 1, 0, 0);
        CHECK.due("run(false, 9)", x.run(false, 9), 1);
        // Behind the first one every register is held in every other; the second is REDUNDANT, and the first stays.
        ThriftyStores y = Kinds.program(in(Kinds.STORE, 1, 2), in(Kinds.STORE, 1, 2), in(Kinds.LOAD, 5, 6));
        due(y, 2, 2, 0, 2, 1);
        dueInstruction(y, 2, Kinds.MOVE, 5, 0);
    }

    private static void notReached() {
        ThriftyStores x = Kinds.program(in(Kinds.MAKE, 1, 1), in(Kinds.JUMP, 5), in(Kinds.STORE, 1, 2),
                in(Kinds.STORE, 1, 2), in(Kinds.LOAD, 3, 1), in(Kinds.HALT));
        due(x, 0, 1, 0, 0, 0, 0, 0, 0);
        dueInstruction(x, 2, Kinds.STORE, 1, 2);
        dueInstruction(x, 4, Kinds.LOAD, 3, 1);
    }

    private static void deadBehindForwarded() {
        // Only when the LOAD has become a MOVE does nobody look into the cell: one round does both.
        ThriftyStores x = Kinds.program(in(Kinds.MAKE, 1, 1), in(Kinds.STORE, 1, 2), in(Kinds.LOAD, 3, 1),
                in(Kinds.PRINT, 3));
        due(x, 2, 2, 0, 3, 1, 0);
    }

    private static void severalRounds() {
        // While register 3 is loaded it may be either object, and what is stored through it takes HOLDS(6, 4);
        // once round 1 has made a MOVE of that LOAD, round 2 can forward the other one.
        ThriftyStores x = Kinds.program(in(Kinds.MAKE, 1, 1), in(Kinds.MAKE, 2, 1), in(Kinds.MAKE, 6, 1),
                in(Kinds.STORE, 2, 6), in(Kinds.STORE, 2, 1), in(Kinds.LOAD, 3, 2), in(Kinds.NUMBER, 4, 4),
                in(Kinds.STORE, 6, 4), in(Kinds.NUMBER, 7, 7), in(Kinds.STORE, 3, 7), in(Kinds.LOAD, 5, 6),
                in(Kinds.PRINT, 5));
        due(x, 6, 3, 0, 0, 0, 3, 3, 1, 0, 3, 0, 3, 1, 0);
        dueInstruction(x, 5, Kinds.MOVE, 3, 1);
        dueInstruction(x, 10, Kinds.MOVE, 5, 4);
        CHECK.due("may(3, 2) of the written program", x.may(3, 2), true);
        CHECK.due("fact(10, 1, 6, 4) of the written program", x.fact(10, 1, 6, 4), false);
        CHECK.due("free(9, 1) of the written program", x.free(9, 1), true);
        CHECK.due("free(9, 3) of the written program", x.free(9, 3), false);
    }

    private static void clearedAndWrittenAgain() {
        ThriftyStores x = Kinds.program(in(Kinds.MAKE, 1, 1), in(Kinds.STORE, 1, 2));
        due(x, 1, 2, 0, 3);
        x.clear();
        Kinds.write(x, in(Kinds.MAKE, 1, 1, 1), in(Kinds.STORE, 1, 2), in(Kinds.HALT));
        due(x, 0, 1, 0, 0, 0);
        CHECK.due("fact(2, 1, 1, 2)", x.fact(2, 1, 1, 2), true);
        CHECK.due("fact(3, 3, 0, 0)", x.fact(3, 3, 0, 0), false);
        CHECK.due("free(1, 1)", x.free(1, 1), false);
    }
}
