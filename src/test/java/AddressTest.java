/** Promises 9 and 10: may, inside. */
public final class AddressTest {
    private static final Check CHECK = new Check("AddressTest");

    private AddressTest() {
    }

    public static void main(String[] args) {
        throughRegistersAndCells();
        againstTheOrder();
        whereNobodyComes();
        ofTheWrittenProgram();
        highNumbers();
        CHECK.end();
    }

    private static int[] in(int... row) {
        return Kinds.in(row);
    }

    private static void dueMay(ThriftyStores x, int register, int... sites) {
        for (int i = 0; i < x.size(); i++) {
            CHECK.due("may(" + register + ", " + i + ")", x.may(register, i), contains(sites, i));
        }
    }

    private static void dueInside(ThriftyStores x, int site, int... sites) {
        for (int i = 0; i < x.size(); i++) {
            CHECK.due("inside(" + site + ", " + i + ")", x.inside(site, i), contains(sites, i));
        }
    }

    private static boolean contains(int[] sites, int i) {
        for (int site : sites) {
            if (site == i) {
                return true;
            }
        }
        return false;
    }

    private static void throughRegistersAndCells() {
        ThriftyStores x = Kinds.program(in(Kinds.MAKE, 1, 2), in(Kinds.MAKE, 2, 2), in(Kinds.MOVE, 3, 1),
                in(Kinds.SHIFT, 4, 2, 5), in(Kinds.STORE, 3, 4), in(Kinds.LOAD, 5, 1), in(Kinds.MAKE, 1, 1, 1),
                in(Kinds.SUM, 6, 1, 1), in(Kinds.SAME, 7, 1, 1));
        x.thrift();
        dueMay(x, 0);
        dueMay(x, 1, 0, 6);
        dueMay(x, 2, 1);
        dueMay(x, 3, 0, 6);
        dueMay(x, 4, 1);
        dueMay(x, 5, 1);
        dueMay(x, 6);
        dueMay(x, 7);
        dueInside(x, 0, 1);
        dueInside(x, 1);
        dueInside(x, 6, 1);
        dueInside(x, 4);
    }

    private static void againstTheOrder() {
        ThriftyStores x = Kinds.program(in(Kinds.LOAD, 4, 3), in(Kinds.MOVE, 3, 2), in(Kinds.MOVE, 2, 1),
                in(Kinds.STORE, 1, 5), in(Kinds.MOVE, 5, 6), in(Kinds.MAKE, 6, 1), in(Kinds.MAKE, 1, 1));
        x.thrift();
        dueMay(x, 4, 5);
        dueMay(x, 3, 6);
        dueMay(x, 5, 5);
        dueInside(x, 6, 5);
        dueInside(x, 5);
    }

    private static void whereNobodyComes() {
        ThriftyStores x = Kinds.program(in(Kinds.HALT), in(Kinds.MAKE, 1, 1), in(Kinds.STORE, 1, 1),
                in(Kinds.LOAD, 2, 1));
        x.thrift();
        dueMay(x, 1, 1);
        dueMay(x, 2, 1);
        dueInside(x, 1, 1);
    }

    private static void ofTheWrittenProgram() {
        // Thrift drops the STORE; what was written still stores.
        ThriftyStores x = Kinds.program(in(Kinds.MAKE, 1, 1), in(Kinds.MAKE, 2, 1), in(Kinds.STORE, 1, 2),
                in(Kinds.HALT));
        CHECK.due("thrift()", x.thrift(), 1);
        dueInside(x, 0, 1);
        dueInside(x, 2);
    }

    private static void highNumbers() {
        ThriftyStores x = new ThriftyStores();
        for (int i = 0; i < 200; i++) {
            if (i % 63 == 0 || i % 64 == 0 || i == 199) {
                Kinds.write(x, in(Kinds.MAKE, 1, 1));
            } else {
                Kinds.write(x, in(i % 2 == 0 ? Kinds.STORE : Kinds.LOAD, 1 + i % 2, 1));
            }
        }
        x.thrift();
        int[] sites = {0, 63, 64, 126, 128, 189, 192, 199};
        dueMay(x, 1, sites);
        dueMay(x, 2, sites);
        dueMay(x, 3);
        for (int site : sites) {
            dueInside(x, site, sites);
        }
    }
}
