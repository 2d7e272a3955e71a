/** Promise 11: fact. */
public final class FactTest {
    private static final Check CHECK = new Check("FactTest");
    private static final int EQUAL = 0;
    private static final int HOLDS = 1;
    private static final int SURE = 2;
    private static final int REACHED = 3;

    private FactTest() {
    }

    public static void main(String[] args) {
        atTheBeginning();
        whatIsSetIsForgotten();
        moves();
        shiftsAndMakes();
        loads();
        loadsIntoTheirAddress();
        stores();
        storesThatMeet();
        waysThatJoin();
        loopsToTheBeginning();
        whatIsReached();
        CHECK.end();
    }

    private static int[] in(int... row) {
        return Kinds.in(row);
    }

    private static void due(ThriftyStores x, int i, int what, int r, int s, boolean want) {
        CHECK.due("fact(" + i + ", " + what + ", " + r + ", " + s + ")", x.fact(i, what, r, s), want);
        if (what == EQUAL) {
            CHECK.due("fact(" + i + ", 0, " + s + ", " + r + ")", x.fact(i, what, s, r), want);
        }
    }

    private static void dueSure(ThriftyStores x, int i, int r, boolean want) {
        due(x, i, SURE, r, 0, want);
    }

    private static void atTheBeginning() {
        ThriftyStores x = Kinds.thrifty();
        for (int r = 0; r < 16; r++) {
            dueSure(x, 0, r, false);
            for (int s = 0; s < 16; s++) {
                due(x, 0, EQUAL, r, s, r != s);
                due(x, 0, HOLDS, r, s, false);
            }
        }
        due(x, 0, REACHED, 0, 0, true);
    }

    private static void whatIsSetIsForgotten() {
        int[][] setting = {{Kinds.NUMBER, 1, 0}, {Kinds.SUM, 1, 2, 3}, {Kinds.DIFFERENCE, 1, 2, 3},
            {Kinds.PRODUCT, 1, 2, 3}, {Kinds.LESS, 1, 2, 3}, {Kinds.SAME, 1, 2, 3}};
        for (int[] row : setting) {
            ThriftyStores x = Kinds.thrifty(in(Kinds.STORE, 1, 1), row);
            due(x, 1, EQUAL, 1, 2, true);
            due(x, 1, HOLDS, 1, 1, true);
            due(x, 2, EQUAL, 1, 2, false);
            due(x, 2, EQUAL, 2, 3, true);
            due(x, 2, HOLDS, 1, 1, false);
            due(x, 2, HOLDS, 1, 2, false);
            due(x, 2, HOLDS, 2, 1, false);
            due(x, 2, HOLDS, 2, 3, true);
            dueSure(x, 2, 1, false);
            dueSure(x, 2, 2, true);
        }
        int[][] leaving = {{Kinds.PRINT, 1}, {Kinds.JUMP, 2}, {Kinds.IF, 1, 2}, {Kinds.NOTHING}, {Kinds.MOVE, 1, 1}};
        for (int[] row : leaving) {
            ThriftyStores x = Kinds.thrifty(in(Kinds.STORE, 1, 1), row);
            due(x, 2, EQUAL, 1, 2, true);
            due(x, 2, HOLDS, 1, 1, true);
            dueSure(x, 2, 1, true);
        }
    }

    private static void moves() {
        ThriftyStores x = Kinds.thrifty(in(Kinds.MAKE, 1, 1), in(Kinds.STORE, 1, 1), in(Kinds.NUMBER, 2, 5),
                in(Kinds.MOVE, 3, 1), in(Kinds.MOVE, 1, 2), in(Kinds.NOTHING));
        due(x, 3, HOLDS, 1, 1, true);
        due(x, 3, HOLDS, 1, 3, false);
        due(x, 4, EQUAL, 1, 3, true);
        due(x, 4, EQUAL, 3, 3, false);
        due(x, 4, EQUAL, 3, 0, false);
        for (int r = 1; r < 4; r += 2) {
            due(x, 4, HOLDS, r, 1, true);
            due(x, 4, HOLDS, r, 3, true);
            due(x, 4, HOLDS, r, 2, false);
            due(x, 4, HOLDS, 2, r, false);
            dueSure(x, 4, r, true);
        }
        due(x, 5, EQUAL, 1, 2, true);
        due(x, 5, EQUAL, 1, 3, false);
        due(x, 5, HOLDS, 3, 3, true);
        due(x, 5, HOLDS, 3, 1, false);
        due(x, 5, HOLDS, 1, 1, false);
        dueSure(x, 5, 1, false);
        dueSure(x, 5, 3, true);
        movesOfWhatIsHeld();
    }

    private static void movesOfWhatIsHeld() {
        ThriftyStores x = Kinds.thrifty(in(Kinds.MAKE, 1, 1), in(Kinds.NUMBER, 2, 5), in(Kinds.STORE, 1, 2),
                in(Kinds.MOVE, 3, 2), in(Kinds.MOVE, 4, 3), in(Kinds.MOVE, 5, 1), in(Kinds.NOTHING));
        due(x, 4, HOLDS, 1, 3, true);
        due(x, 5, HOLDS, 1, 4, true);
        due(x, 5, EQUAL, 4, 2, true);
        due(x, 5, EQUAL, 4, 3, true);
        due(x, 6, HOLDS, 5, 2, true);
        due(x, 6, HOLDS, 5, 4, true);
        due(x, 6, HOLDS, 5, 5, false);
        due(x, 6, HOLDS, 5, 1, false);
        due(x, 6, HOLDS, 4, 5, false);
    }

    private static void shiftsAndMakes() {
        ThriftyStores x = Kinds.thrifty(in(Kinds.SHIFT, 1, 2, 3), in(Kinds.SHIFT, 4, 4, 3), in(Kinds.MAKE, 5, 1),
                in(Kinds.NOTHING));
        dueSure(x, 1, 1, true);
        dueSure(x, 1, 2, true);
        dueSure(x, 1, 3, false);
        dueSure(x, 1, 4, false);
        due(x, 1, EQUAL, 1, 2, false);
        due(x, 1, EQUAL, 2, 3, true);
        dueSure(x, 2, 4, true);
        due(x, 2, EQUAL, 4, 2, false);
        dueSure(x, 3, 5, true);
        due(x, 3, EQUAL, 5, 6, false);
        due(x, 3, EQUAL, 6, 7, true);
        due(x, 3, HOLDS, 5, 0, false);
    }

    private static void loads() {
        ThriftyStores x = Kinds.thrifty(in(Kinds.MAKE, 1, 1), in(Kinds.MOVE, 2, 1), in(Kinds.LOAD, 3, 1),
                in(Kinds.LOAD, 4, 2), in(Kinds.MOVE, 6, 5), in(Kinds.LOAD, 5, 6), in(Kinds.NOTHING));
        due(x, 3, HOLDS, 1, 3, true);
        due(x, 3, HOLDS, 2, 3, true);
        due(x, 3, HOLDS, 3, 1, false);
        due(x, 3, EQUAL, 3, 4, false);
        due(x, 3, EQUAL, 1, 3, false);
        due(x, 4, EQUAL, 3, 4, true);
        due(x, 4, HOLDS, 1, 4, true);
        due(x, 4, HOLDS, 2, 4, true);
        due(x, 4, EQUAL, 4, 5, false);
        dueSure(x, 5, 6, false);
        due(x, 5, EQUAL, 5, 6, true);
        dueSure(x, 6, 6, true);
        dueSure(x, 6, 7, true);
        dueSure(x, 6, 5, false);
        due(x, 6, HOLDS, 6, 5, true);
        due(x, 6, HOLDS, 7, 5, true);
        due(x, 6, HOLDS, 5, 5, false);
        due(x, 6, EQUAL, 5, 6, false);
        due(x, 6, EQUAL, 6, 7, true);
    }

    private static void loadsIntoTheirAddress() {
        ThriftyStores x = Kinds.thrifty(in(Kinds.MAKE, 1, 1), in(Kinds.MOVE, 2, 1), in(Kinds.NUMBER, 3, 7),
                in(Kinds.STORE, 1, 3), in(Kinds.LOAD, 1, 1), in(Kinds.NOTHING));
        due(x, 5, HOLDS, 2, 1, true);
        due(x, 5, HOLDS, 2, 3, true);
        due(x, 5, HOLDS, 1, 1, false);
        due(x, 5, HOLDS, 1, 3, false);
        due(x, 5, EQUAL, 1, 3, true);
        due(x, 5, EQUAL, 1, 2, false);
        dueSure(x, 5, 1, false);
        dueSure(x, 5, 2, true);
    }

    private static void stores() {
        ThriftyStores x = Kinds.thrifty(in(Kinds.NUMBER, 1, 1), in(Kinds.NUMBER, 2, 2), in(Kinds.MOVE, 3, 1),
                in(Kinds.MOVE, 4, 2), in(Kinds.STORE, 1, 2), in(Kinds.NOTHING));
        int[] places = {1, 3};
        int[] values = {2, 4};
        for (int r : places) {
            dueSure(x, 4, r, false);
            dueSure(x, 5, r, true);
            due(x, 5, HOLDS, r, 1, false);
            due(x, 5, HOLDS, r, 5, false);
            for (int s : values) {
                dueSure(x, 5, s, false);
                due(x, 5, HOLDS, r, s, true);
                due(x, 5, HOLDS, s, r, false);
            }
        }
        due(x, 5, EQUAL, 1, 3, true);
        due(x, 5, EQUAL, 2, 4, true);
    }

    private static void storesThatMeet() {
        ThriftyStores x = Kinds.thrifty(in(Kinds.MAKE, 1, 2), in(Kinds.SHIFT, 2, 1, 0), in(Kinds.MAKE, 3, 1),
                in(Kinds.NUMBER, 4, 4), in(Kinds.NUMBER, 5, 5), in(Kinds.STORE, 1, 4), in(Kinds.STORE, 3, 4),
                in(Kinds.MOVE, 6, 4), in(Kinds.STORE, 2, 6), in(Kinds.STORE, 2, 5), in(Kinds.NOTHING));
        due(x, 6, HOLDS, 1, 4, true);
        due(x, 7, HOLDS, 1, 4, true);
        due(x, 7, HOLDS, 3, 4, true);
        due(x, 9, HOLDS, 1, 4, true);
        due(x, 9, HOLDS, 1, 6, true);
        due(x, 9, HOLDS, 2, 4, true);
        due(x, 10, HOLDS, 1, 4, false);
        due(x, 10, HOLDS, 1, 6, false);
        due(x, 10, HOLDS, 2, 4, false);
        due(x, 10, HOLDS, 2, 5, true);
        due(x, 10, HOLDS, 1, 5, false);
        due(x, 10, HOLDS, 3, 4, true);
        due(x, 10, HOLDS, 3, 6, true);
    }

    private static void waysThatJoin() {
        ThriftyStores x = Kinds.thrifty(in(Kinds.MAKE, 1, 1), in(Kinds.NUMBER, 2, 2), in(Kinds.NUMBER, 3, 3),
                in(Kinds.IF, 4, 7), in(Kinds.STORE, 1, 2), in(Kinds.MOVE, 5, 2), in(Kinds.JUMP, 9),
                in(Kinds.STORE, 1, 3), in(Kinds.MOVE, 5, 3), in(Kinds.NOTHING));
        due(x, 6, HOLDS, 1, 5, true);
        due(x, 6, HOLDS, 1, 2, true);
        due(x, 6, EQUAL, 5, 2, true);
        due(x, 9, HOLDS, 1, 5, true);
        due(x, 9, HOLDS, 1, 2, false);
        due(x, 9, HOLDS, 1, 3, false);
        due(x, 9, EQUAL, 5, 2, false);
        due(x, 9, EQUAL, 5, 3, false);
        due(x, 9, EQUAL, 4, 6, true);
        dueSure(x, 9, 1, true);
    }

    private static void loopsToTheBeginning() {
        ThriftyStores x = Kinds.thrifty(in(Kinds.NOTHING), in(Kinds.NUMBER, 1, 1), in(Kinds.MAKE, 2, 1),
                in(Kinds.IF, 3, 0));
        due(x, 0, EQUAL, 1, 4, false);
        due(x, 0, EQUAL, 1, 2, false);
        due(x, 0, EQUAL, 3, 4, true);
        dueSure(x, 0, 2, false);
        dueSure(x, 4, 2, true);
        ThriftyStores y = Kinds.thrifty(in(Kinds.MAKE, 1, 1), in(Kinds.LOAD, 2, 1), in(Kinds.IF, 2, 1),
                in(Kinds.JUMP, 1));
        due(y, 1, HOLDS, 1, 2, false);
        dueSure(y, 1, 1, true);
        due(y, 2, HOLDS, 1, 2, true);
    }

    private static void whatIsReached() {
        ThriftyStores x = Kinds.thrifty(in(Kinds.IF, 1, 4), in(Kinds.JUMP, 5), in(Kinds.MAKE, 2, 1), in(Kinds.JUMP, 5),
                in(Kinds.HALT), in(Kinds.JUMP, 5));
        boolean[] reached = {true, true, false, false, true, true, false};
        for (int i = 0; i < reached.length; i++) {
            due(x, i, REACHED, 0, 0, reached[i]);
            due(x, i, EQUAL, 2, 3, reached[i]);
        }
        dueSure(x, 3, 2, false);
        ThriftyStores y = Kinds.thrifty(in(Kinds.JUMP, 200), in(Kinds.HALT));
        due(y, 1, REACHED, 0, 0, false);
        due(y, 2, REACHED, 0, 0, true);
        due(y, 2, EQUAL, 0, 15, true);
        ThriftyStores z = new ThriftyStores();
        for (int i = 0; i < 200; i++) {
            z.add(Kinds.IF, i % 16, 200, 0);
        }
        z.thrift();
        due(z, 199, REACHED, 0, 0, true);
        due(z, 200, REACHED, 0, 0, true);
        due(z, 200, EQUAL, 14, 15, true);
    }
}
