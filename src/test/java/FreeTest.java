/** Promise 12: free. */
public final class FreeTest {
    private static final Check CHECK = new Check("FreeTest");

    private FreeTest() {
    }

    public static void main(String[] args) {
        atTheEnds();
        whatIsSetIsNotFree();
        moves();
        loads();
        stores();
        waysThatPart();
        loops();
        whatIsNotReached();
        CHECK.end();
    }

    private static int[] in(int... row) {
        return Kinds.in(row);
    }

    private static void due(ThriftyStores x, int i, int r, boolean want) {
        CHECK.due("free(" + i + ", " + r + ")", x.free(i, r), want);
    }

    private static void atTheEnds() {
        ThriftyStores x = Kinds.thrifty(in(Kinds.MAKE, 1, 1), in(Kinds.MAKE, 2, 1, 1), in(Kinds.MOVE, 3, 2),
                in(Kinds.IF, 0, 200), in(Kinds.HALT));
        for (int i = 3; i <= 5; i++) {
            due(x, i, 0, true);
            due(x, i, 1, true);
            due(x, i, 2, false);
            due(x, i, 3, false);
        }
        ThriftyStores empty = Kinds.thrifty();
        for (int r = 0; r < 16; r++) {
            due(empty, 0, r, true);
        }
    }

    private static void whatIsSetIsNotFree() {
        int[][] setting = {{Kinds.NUMBER, 1, 0}, {Kinds.SUM, 1, 2, 3}, {Kinds.DIFFERENCE, 1, 2, 3},
            {Kinds.PRODUCT, 1, 2, 3}, {Kinds.LESS, 1, 2, 3}, {Kinds.SAME, 1, 2, 3}, {Kinds.SHIFT, 1, 2, 3},
            {Kinds.MAKE, 1, 1}, {Kinds.LOAD, 1, 2}, {Kinds.MOVE, 1, 1}, {Kinds.MOVE, 1, 2}};
        for (int[] row : setting) {
            ThriftyStores x = Kinds.thrifty(in(Kinds.NOTHING), row);
            due(x, 0, 1, false);
            due(x, 0, 2, true);
            due(x, 0, 3, true);
            due(x, 1, 1, true);
        }
        int[][] leaving = {{Kinds.PRINT, 1}, {Kinds.JUMP, 2}, {Kinds.IF, 1, 2}, {Kinds.NOTHING}, {Kinds.HALT}};
        for (int[] row : leaving) {
            ThriftyStores x = Kinds.thrifty(in(Kinds.NOTHING), row);
            due(x, 0, 1, true);
        }
    }

    private static void moves() {
        // At the end register 2 may be a KEPT object, so it is not free but for what register 1 will be.
        ThriftyStores x = Kinds.thrifty(in(Kinds.MAKE, 2, 1, 1), in(Kinds.NOTHING), in(Kinds.MOVE, 1, 2),
                in(Kinds.STORE, 1, 3), in(Kinds.NUMBER, 1, 0));
        due(x, 4, 2, false);
        due(x, 3, 2, false);
        due(x, 3, 1, false);
        due(x, 2, 1, true);
        due(x, 2, 2, true);
        due(x, 1, 2, true);
        due(x, 1, 1, false);
        ThriftyStores y = Kinds.thrifty(in(Kinds.MAKE, 2, 1, 1), in(Kinds.NOTHING), in(Kinds.MOVE, 1, 2),
                in(Kinds.NUMBER, 3, 3), in(Kinds.SHIFT, 2, 2, 3), in(Kinds.STORE, 1, 3), in(Kinds.NUMBER, 1, 0));
        due(y, 4, 1, true);
        due(y, 4, 2, false);
        due(y, 2, 1, true);
        due(y, 2, 2, false);
        due(y, 1, 2, true);
    }

    private static void loads() {
        ThriftyStores x = Kinds.thrifty(in(Kinds.MAKE, 1, 2), in(Kinds.MAKE, 2, 1), in(Kinds.SHIFT, 3, 1, 0),
                in(Kinds.NOTHING), in(Kinds.LOAD, 4, 3), in(Kinds.NOTHING), in(Kinds.LOAD, 5, 6));
        due(x, 3, 1, false);
        due(x, 3, 2, true);
        due(x, 3, 3, false);
        due(x, 3, 4, false);
        due(x, 4, 1, true);
        due(x, 4, 3, true);
        due(x, 4, 4, true);
        // No site is in MAY(6): it does not even meet itself.
        due(x, 5, 6, true);
        due(x, 5, 5, false);
    }

    private static void stores() {
        ThriftyStores x = Kinds.thrifty(in(Kinds.MAKE, 1, 2, 1), in(Kinds.MOVE, 2, 1), in(Kinds.SHIFT, 3, 1, 0),
                in(Kinds.NOTHING), in(Kinds.STORE, 1, 4), in(Kinds.HALT));
        due(x, 3, 1, true);
        due(x, 3, 2, true);
        due(x, 3, 3, false);
        due(x, 3, 4, true);
        due(x, 4, 1, false);
        due(x, 4, 2, false);
    }

    private static void waysThatPart() {
        ThriftyStores x = Kinds.thrifty(in(Kinds.MAKE, 1, 1), in(Kinds.IF, 5, 4), in(Kinds.STORE, 1, 2), in(Kinds.HALT),
                in(Kinds.LOAD, 3, 1));
        due(x, 1, 1, false);
        due(x, 0, 1, false);
        due(x, 1, 4, true);
        due(x, 2, 1, true);
        due(x, 3, 1, true);
        ThriftyStores y = Kinds.thrifty(in(Kinds.MAKE, 1, 1, 1), in(Kinds.IF, 5, 4), in(Kinds.STORE, 1, 2),
                in(Kinds.HALT), in(Kinds.STORE, 1, 3));
        due(y, 1, 1, true);
        due(y, 0, 1, true);
        due(y, 2, 1, false);
        due(y, 4, 1, false);
    }

    private static void loops() {
        // A loop that nobody leaves: all is free in it that it does not set or load.
        ThriftyStores x = Kinds.thrifty(in(Kinds.MAKE, 1, 1, 1), in(Kinds.NUMBER, 2, 2), in(Kinds.JUMP, 1));
        due(x, 0, 1, true);
        due(x, 2, 1, true);
        due(x, 2, 2, false);
        due(x, 1, 2, false);
        ThriftyStores y = Kinds.thrifty(in(Kinds.MAKE, 1, 1), in(Kinds.MAKE, 2, 1), in(Kinds.NOTHING),
                in(Kinds.LOAD, 3, 1), in(Kinds.STORE, 2, 3), in(Kinds.IF, 3, 2));
        due(y, 3, 1, false);
        due(y, 4, 1, false);
        due(y, 5, 1, false);
        due(y, 5, 2, true);
        due(y, 6, 1, true);
    }

    private static void whatIsNotReached() {
        ThriftyStores x = Kinds.thrifty(in(Kinds.JUMP, 2), in(Kinds.NOTHING), in(Kinds.HALT));
        for (int r = 0; r < 16; r++) {
            due(x, 0, r, true);
            due(x, 1, r, false);
            due(x, 2, r, true);
            due(x, 3, r, false);
        }
    }
}
