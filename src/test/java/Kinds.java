/** The kinds of instructions by name, and programs written down with them. */
final class Kinds {
    static final int NUMBER = 0;
    static final int MOVE = 1;
    static final int SUM = 2;
    static final int DIFFERENCE = 3;
    static final int PRODUCT = 4;
    static final int LESS = 5;
    static final int SAME = 6;
    static final int SHIFT = 7;
    static final int MAKE = 8;
    static final int LOAD = 9;
    static final int STORE = 10;
    static final int PRINT = 11;
    static final int JUMP = 12;
    static final int IF = 13;
    static final int HALT = 14;
    static final int NOTHING = 15;

    private Kinds() {
    }

    /** A new object with the instructions given: each row is a kind and what of a, b, c is not 0. */
    static ThriftyStores program(int[]... rows) {
        ThriftyStores x = new ThriftyStores();
        write(x, rows);
        return x;
    }

    static ThriftyStores thrifty(int[]... rows) {
        ThriftyStores x = program(rows);
        x.thrift();
        return x;
    }

    static void write(ThriftyStores x, int[]... rows) {
        for (int[] row : rows) {
            x.add(row[0], part(row, 1), part(row, 2), part(row, 3));
        }
    }

    static int[] in(int... row) {
        return row;
    }

    private static int part(int[] row, int k) {
        return k < row.length ? row[k] : 0;
    }
}
