import java.util.ArrayList;
import java.util.List;

/** The whole face in its plainest form: it answers each call as text, or names the exception that is due. */
final class PlainStores {
    static final String NO_INDEX = "IndexOutOfBoundsException";
    static final String NO_ARGUMENT = "IllegalArgumentException";
    static final String NO_STATE = "IllegalStateException";

    /** Of each kind, what a, b and c may be: r a register, n any number, c 1 .. 16, k 0 or 1, t 0 .. 200, 0 nothing. */
    private static final String[] FORMS = {
        "rn0", "rr0", "rrr", "rrr", "rrr", "rrr", "rrr", "rrr", "rck", "rr0", "rr0", "r00", "t00", "rt0", "000", "000"};

    private final List<int[]> program = new ArrayList<>();
    private PlainModel.Thrifty thrifty = null;
    private PlainModel model = null;
    private PlainRun last = null;

    boolean isThrifty() {
        return thrifty != null;
    }

    String answer(String name, int... arguments) {
        int first = arguments.length > 0 ? arguments[0] : 0;
        int second = arguments.length > 1 ? arguments[1] : 0;
        switch (name) {
            case "add":
                return add(arguments);
            case "clear":
                return clear();
            case "thrift":
                return thrift();
            case "size":
                return "" + program.size();
            case "instruction":
                return instruction(first, second, arguments[2] == 1);
            case "fate":
                return !isInstruction(first) ? NO_INDEX : thrifty == null ? NO_STATE : "" + thrifty.fates[first];
            case "rounds":
                return thrifty == null ? NO_STATE : "" + thrifty.rounds;
            case "may":
                return !isRegister(first) || !isInstruction(second) ? NO_INDEX
                        : thrifty == null ? NO_STATE : "" + model.may.get(first).contains(second);
            case "inside":
                return !isInstruction(first) || !isInstruction(second) ? NO_INDEX
                        : thrifty == null ? NO_STATE : "" + model.cells.get(first).contains(second);
            case "fact":
                return fact(first, second, arguments[2], arguments[3]);
            case "free":
                return !isPoint(first) || !isRegister(second) ? NO_INDEX
                        : thrifty == null ? NO_STATE : "" + model.free[first][second];
            case "run":
                return run(first == 1, second);
            default:
                return ofTheLastRun(name, arguments);
        }
    }

    private boolean isInstruction(int i) {
        return i >= 0 && i < program.size();
    }

    private boolean isPoint(int i) {
        return i >= 0 && i <= program.size();
    }

    private static boolean isRegister(int r) {
        return r >= 0 && r < 16;
    }

    private static boolean mayStand(char form, int number) {
        switch (form) {
            case 'r':
                return isRegister(number);
            case 'n':
                return true;
            case 'c':
                return number >= 1 && number <= 16;
            case 'k':
                return number == 0 || number == 1;
            case 't':
                return number >= 0 && number <= 200;
            default:
                return number == 0;
        }
    }

    private String add(int[] row) {
        if (row[0] < 0 || row[0] > 15) {
            return NO_ARGUMENT;
        }
        for (int k = 1; k < 4; k++) {
            if (!mayStand(FORMS[row[0]].charAt(k - 1), row[k])) {
                return NO_ARGUMENT;
            }
        }
        if (program.size() == 200 || thrifty != null) {
            return NO_STATE;
        }
        program.add(row.clone());
        return "" + (program.size() - 1);
    }

    private String clear() {
        int had = program.size();
        program.clear();
        thrifty = null;
        return "" + had;
    }

    private String thrift() {
        if (thrifty != null) {
            return NO_STATE;
        }
        List<int[]> written = new ArrayList<>(program);
        thrifty = new PlainModel.Thrifty(written);
        model = new PlainModel(written);
        return "" + thrifty.changes;
    }

    private String instruction(int i, int what, boolean written) {
        if (!isInstruction(i)) {
            return NO_INDEX;
        }
        if (what < 0 || what > 3) {
            return NO_ARGUMENT;
        }
        if (!written && thrifty == null) {
            return NO_STATE;
        }
        return "" + (written ? program : thrifty.program).get(i)[what];
    }

    private String fact(int i, int what, int r, int s) {
        if (!isPoint(i) || !isRegister(r) || !isRegister(s)) {
            return NO_INDEX;
        }
        if (what < 0 || what > 3 || what == 2 && s != 0 || what == 3 && (r != 0 || s != 0)) {
            return NO_ARGUMENT;
        }
        if (thrifty == null) {
            return NO_STATE;
        }
        boolean[] answers = {model.equal[i][r][s], model.holds[i][r][s], model.sure[i][r], model.reached[i]};
        return "" + answers[what];
    }

    private String run(boolean written, int steps) {
        if (steps < 1 || steps > 5000) {
            return NO_ARGUMENT;
        }
        if (!written && thrifty == null) {
            return NO_STATE;
        }
        last = new PlainRun(written ? program : thrifty.program, steps);
        return "" + last.end;
    }

    private String ofTheLastRun(String name, int[] arguments) {
        int kept = last != null && last.end == 0 ? last.keptObjects.size() : 0;
        int printed = last == null ? 0 : last.printed.size();
        switch (name) {
            case "steps":
                return last == null ? "0" : "" + last.steps;
            case "printed":
                return "" + printed;
            case "print":
                return arguments[0] < 0 || arguments[0] >= printed ? NO_INDEX : "" + last.printed.get(arguments[0]);
            case "kept":
                return "" + kept;
            default:
                return arguments[0] < 0 || arguments[0] >= kept ? NO_INDEX
                        : cell(last.objects.get(last.keptObjects.get(arguments[0])), arguments[1], arguments[2]);
        }
    }

    private static String cell(Object[] object, int k, int what) {
        if (k < 0 || k >= object.length) {
            return NO_INDEX;
        }
        if (what < 0 || what > 2) {
            return NO_ARGUMENT;
        }
        if (object[k] instanceof PlainRun.Address to) {
            return "" + new int[] {1, to.object(), to.place()}[what];
        }
        return "" + (what == 1 ? object[k] : 0);
    }
}
