import java.util.ArrayList;
import java.util.List;

/** A run of a program as the document says it, with values as objects: an Integer, or an Address. */
final class PlainRun {
    record Address(int object, int place) {
    }

    final List<Object[]> objects = new ArrayList<>();
    final List<Integer> keptObjects = new ArrayList<>();
    final List<Integer> printed = new ArrayList<>();
    final int end;
    int steps = 0;
    private final Object[] registers = new Object[16];
    private int at = 0;

    PlainRun(List<int[]> program, int most) {
        for (int r = 0; r < 16; r++) {
            registers[r] = 0;
        }
        int ending = -1;
        while (ending < 0) {
            if (at >= program.size()) {
                ending = 0;
            } else if (steps == most) {
                ending = 2;
            } else {
                steps++;
                ending = step(program.get(at));
            }
        }
        end = ending;
    }

    private int step(int[] in) {
        int a = in[1];
        Object first = a < 16 ? registers[a] : null;
        Object second = in[2] >= 0 && in[2] < 16 ? registers[in[2]] : null;
        Object third = registers[in[3]];
        at++;
        switch (in[0]) {
            case Kinds.NUMBER:
                registers[a] = in[2];
                return -1;
            case Kinds.MOVE:
                registers[a] = second;
                return -1;
            case Kinds.SAME:
                registers[a] = second.equals(third) ? 1 : 0;
                return -1;
            case Kinds.SUM:
            case Kinds.DIFFERENCE:
            case Kinds.PRODUCT:
            case Kinds.LESS:
                return reckon(in[0], a, second, third);
            case Kinds.SHIFT:
                return shift(a, second, third);
            case Kinds.MAKE:
                return make(a, in[2], in[3] == 1);
            case Kinds.LOAD:
                if (second instanceof Address from) {
                    registers[a] = objects.get(from.object())[from.place()];
                    return -1;
                }
                return 1;
            case Kinds.STORE:
                if (first instanceof Address to) {
                    objects.get(to.object())[to.place()] = second;
                    return -1;
                }
                return 1;
            case Kinds.PRINT:
                return tell(first);
            case Kinds.JUMP:
                at = a;
                return -1;
            case Kinds.IF:
                return decide(first, in[2]);
            default:
                return in[0] == Kinds.HALT ? 0 : -1;
        }
    }

    private int reckon(int kind, int a, Object second, Object third) {
        if (second instanceof Integer l && third instanceof Integer r) {
            long exact = kind == Kinds.SUM ? (long) l + r : kind == Kinds.DIFFERENCE ? (long) l - r : (long) l * r;
            registers[a] = kind == Kinds.LESS ? (l < r ? 1 : 0) : (int) exact;
            return -1;
        }
        return 1;
    }

    private int shift(int a, Object second, Object third) {
        if (second instanceof Address from && third instanceof Integer by) {
            long place = (long) from.place() + by;
            if (place >= 0 && place < objects.get(from.object()).length) {
                registers[a] = new Address(from.object(), (int) place);
                return -1;
            }
        }
        return 1;
    }

    private int make(int a, int cells, boolean kept) {
        if (objects.size() == 300) {
            return 3;
        }
        Object[] made = new Object[cells];
        for (int k = 0; k < cells; k++) {
            made[k] = 0;
        }
        if (kept) {
            keptObjects.add(objects.size());
        }
        registers[a] = new Address(objects.size(), 0);
        objects.add(made);
        return -1;
    }

    private int tell(Object value) {
        if (value instanceof Integer n) {
            if (printed.size() == 200) {
                return 3;
            }
            printed.add(n);
            return -1;
        }
        return 1;
    }

    private int decide(Object value, int target) {
        if (value instanceof Integer n) {
            at = n != 0 ? target : at;
            return -1;
        }
        return 1;
    }
}
