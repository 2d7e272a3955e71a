import java.util.ArrayList;
import java.util.HashSet;
import java.util.List;
import java.util.Set;

/**
 * What the document says of one program, asked fact by fact and without any thought of speed: each set begins
 * empty and grows, or begins full and shrinks, until each of its members is as the document's words want it.
 */
final class PlainModel {
    private static final int REGISTERS = 16;

    final List<int[]> program;
    final int size;
    final List<Set<Integer>> may = new ArrayList<>();
    final List<Set<Integer>> cells = new ArrayList<>();
    final boolean[] reached;
    final boolean[][][] equal;
    final boolean[][][] holds;
    final boolean[][] sure;
    final boolean[][] free;

    PlainModel(List<int[]> program) {
        this.program = program;
        this.size = program.size();
        this.reached = new boolean[size + 1];
        this.equal = new boolean[size + 1][REGISTERS][REGISTERS];
        this.holds = new boolean[size + 1][REGISTERS][REGISTERS];
        this.sure = new boolean[size + 1][REGISTERS];
        this.free = new boolean[size + 1][REGISTERS];
        findAddresses();
        findReached();
        findFacts();
        findFree();
    }

    List<Integer> next(int i) {
        List<Integer> points = new ArrayList<>();
        if (i == size) {
            return points;
        }
        int[] in = program.get(i);
        if (in[0] != Kinds.JUMP && in[0] != Kinds.HALT) {
            points.add(i + 1);
        }
        if (in[0] == Kinds.JUMP) {
            points.add(Math.min(in[1], size));
        }
        if (in[0] == Kinds.IF) {
            points.add(Math.min(in[2], size));
        }
        return points;
    }

    private void findAddresses() {
        for (int r = 0; r < REGISTERS; r++) {
            may.add(new HashSet<>());
        }
        for (int i = 0; i < size; i++) {
            cells.add(new HashSet<>());
        }
        boolean grown = true;
        while (grown) {
            grown = false;
            for (int i = 0; i < size; i++) {
                grown |= grow(i);
            }
        }
    }

    private boolean grow(int i) {
        int[] in = program.get(i);
        boolean grown = false;
        if (in[0] == Kinds.MAKE) {
            grown = may.get(in[1]).add(i);
        }
        if (in[0] == Kinds.MOVE || in[0] == Kinds.SHIFT) {
            grown = may.get(in[1]).addAll(new HashSet<>(may.get(in[2])));
        }
        if (in[0] == Kinds.LOAD) {
            for (int s : new ArrayList<>(may.get(in[2]))) {
                grown |= may.get(in[1]).addAll(cells.get(s));
            }
        }
        if (in[0] == Kinds.STORE) {
            for (int s : may.get(in[1])) {
                grown |= cells.get(s).addAll(may.get(in[2]));
            }
        }
        return grown;
    }

    boolean meet(int r, int s) {
        for (int site : may.get(r)) {
            if (may.get(s).contains(site)) {
                return true;
            }
        }
        return false;
    }

    private void findReached() {
        List<Integer> open = new ArrayList<>();
        open.add(0);
        while (!open.isEmpty()) {
            int i = open.remove(open.size() - 1);
            if (!reached[i]) {
                reached[i] = true;
                open.addAll(next(i));
            }
        }
    }

    private void findFacts() {
        for (int i = 0; i <= size; i++) {
            for (int r = 0; reached[i] && r < REGISTERS; r++) {
                sure[i][r] = i != 0;
                for (int s = 0; s < REGISTERS; s++) {
                    equal[i][r][s] = r != s;
                    holds[i][r][s] = i != 0;
                }
            }
        }
        boolean shrunk = true;
        while (shrunk) {
            shrunk = false;
            for (int i = 0; i < size; i++) {
                for (int p : next(i)) {
                    shrunk |= reached[i] && shrink(p, i);
                }
            }
        }
    }

    private boolean shrink(int p, int from) {
        boolean shrunk = false;
        for (int r = 0; r < REGISTERS; r++) {
            if (sure[p][r] && !sureComes(from, r)) {
                sure[p][r] = false;
                shrunk = true;
            }
            for (int s = 0; s < REGISTERS; s++) {
                if (equal[p][r][s] && !equalComes(from, r, s)) {
                    equal[p][r][s] = false;
                    shrunk = true;
                }
                if (holds[p][r][s] && !holdsComes(from, r, s)) {
                    holds[p][r][s] = false;
                    shrunk = true;
                }
            }
        }
        return shrunk;
    }

    private boolean isOrEquals(int i, int r, int s) {
        return r == s || equal[i][r][s];
    }

    private boolean equalComes(int i, int r, int s) {
        int[] in = program.get(i);
        int a = in[1];
        int b = in[2];
        if (r == s) {
            return false;
        }
        if (in[0] > Kinds.LOAD || r != a && s != a || in[0] == Kinds.MOVE && a == b) {
            return equal[i][r][s];
        }
        int other = r == a ? s : r;
        if (in[0] == Kinds.MOVE) {
            return isOrEquals(i, b, other);
        }
        return in[0] == Kinds.LOAD && holds[i][b][other];
    }

    private boolean holdsComes(int i, int r, int s) {
        int[] in = program.get(i);
        int a = in[1];
        int b = in[2];
        if (in[0] == Kinds.STORE) {
            boolean stored = isOrEquals(i, s, b);
            boolean taken = meet(r, a) && !stored;
            return isOrEquals(i, r, a) && stored || holds[i][r][s] && !taken;
        }
        if (in[0] == Kinds.MOVE) {
            return holds[i][r == a ? b : r][s == a ? b : s];
        }
        if (in[0] == Kinds.LOAD && s == a && r != a) {
            return isOrEquals(i, b, r);
        }
        return holds[i][r][s] && (in[0] > Kinds.LOAD || r != a && s != a);
    }

    private boolean sureComes(int i, int r) {
        int[] in = program.get(i);
        int a = in[1];
        int b = in[2];
        switch (in[0]) {
            case Kinds.MOVE:
                return sure[i][r == a ? b : r];
            case Kinds.SHIFT:
                return r == a || r == b || sure[i][r];
            case Kinds.MAKE:
                return r == a || sure[i][r];
            case Kinds.LOAD:
                return r != a && (isOrEquals(i, b, r) || sure[i][r]);
            case Kinds.STORE:
                return isOrEquals(i, a, r) || sure[i][r];
            default:
                return sure[i][r] && (in[0] > Kinds.LOAD || r != a);
        }
    }

    private boolean freeAtEnd(int r) {
        for (int site : may.get(r)) {
            if (program.get(site)[3] == 1) {
                return false;
            }
        }
        return true;
    }

    private void findFree() {
        for (int i = 0; i <= size; i++) {
            for (int r = 0; r < REGISTERS; r++) {
                boolean end = i == size || program.get(i)[0] == Kinds.HALT;
                free[i][r] = reached[i] && (!end || freeAtEnd(r));
            }
        }
        boolean shrunk = true;
        while (shrunk) {
            shrunk = false;
            for (int i = 0; i < size; i++) {
                for (int r = 0; r < REGISTERS; r++) {
                    if (free[i][r] && !freeBeforeAll(next(i), r)) {
                        free[i][r] = false;
                        shrunk = true;
                    }
                }
            }
        }
    }

    private boolean freeBeforeAll(List<Integer> points, int r) {
        for (int p : points) {
            if (!freeBefore(p, r)) {
                return false;
            }
        }
        return true;
    }

    private boolean freeBefore(int i, int r) {
        if (i == size || program.get(i)[0] == Kinds.HALT) {
            return free[i][r];
        }
        int[] in = program.get(i);
        if (in[0] == Kinds.STORE && isOrEquals(i, r, in[1])) {
            return true;
        }
        if (in[0] <= Kinds.LOAD && r == in[1] || in[0] == Kinds.LOAD && meet(r, in[2])) {
            return false;
        }
        return free[i][r] || in[0] == Kinds.MOVE && r == in[2] && free[i][in[1]];
    }

    /** The program that the first half of a round makes; fates are written where something changed. */
    private List<int[]> withoutKnown(int[] fates) {
        List<int[]> made = new ArrayList<>();
        for (int i = 0; i < size; i++) {
            int[] in = program.get(i);
            made.add(in);
            if (in[0] == Kinds.LOAD && reached[i]) {
                for (int v = REGISTERS - 1; v >= 0; v--) {
                    if (holds[i][in[2]][v]) {
                        made.set(i, new int[] {Kinds.MOVE, in[1], v, 0});
                        fates[i] = 1;
                    }
                }
            }
            if (in[0] == Kinds.STORE && reached[i] && holds[i][in[1]][in[2]]) {
                made.set(i, new int[] {Kinds.NOTHING, 0, 0, 0});
                fates[i] = 2;
            }
        }
        return made;
    }

    private List<int[]> withoutDead(int[] fates) {
        List<int[]> made = new ArrayList<>();
        for (int i = 0; i < size; i++) {
            int[] in = program.get(i);
            boolean dead = in[0] == Kinds.STORE && reached[i] && sure[i][in[1]] && free[i][in[1]];
            made.add(dead ? new int[] {Kinds.NOTHING, 0, 0, 0} : in);
            if (dead) {
                fates[i] = 3;
            }
        }
        return made;
    }

    /** What thrift makes of a program. */
    static final class Thrifty {
        List<int[]> program;
        final int[] fates;
        int changes = 0;
        int rounds = 0;

        Thrifty(List<int[]> written) {
            program = written;
            fates = new int[written.size()];
            int last = 1;
            while (last > 0) {
                List<int[]> made = new PlainModel(program).withoutKnown(fates);
                made = new PlainModel(made).withoutDead(fates);
                last = 0;
                for (int i = 0; i < made.size(); i++) {
                    if (made.get(i) != program.get(i)) {
                        last++;
                    }
                }
                program = made;
                changes += last;
                rounds++;
            }
        }
    }
}
