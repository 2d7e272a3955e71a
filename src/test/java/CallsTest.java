import java.lang.reflect.Method;
import java.lang.reflect.Modifier;
import java.util.Arrays;
import java.util.Set;
import java.util.TreeSet;

/**
 * All promises together: made-up runs of 512 calls on a new object, right and wrong ones in any order, the same in
 * each run of this test; each must answer, or throw, what the plainest form of the face does.
 */
public final class CallsTest {
    private static final Check CHECK = new Check("CallsTest");
    private static final int CALLS = 512;
    private static final String[] QUESTIONS = {"size", "instruction", "fate", "rounds", "may", "inside", "fact", "fact",
        "free", "steps", "printed", "print", "kept", "cell", "cell"};
    private static final int[] EDGES = {Integer.MIN_VALUE, -1, 0, 1, 15, 16, 199, 200, 201, Integer.MAX_VALUE};
    private static final int[] EDGES_OF_STEPS = {Integer.MIN_VALUE, -1, 0, 1, 2, 4999, 5000, 5001, Integer.MAX_VALUE};
    private static final Set<String> SEEN = new TreeSet<>();
    private static long seed = 15112026L;

    private CallsTest() {
    }

    public static void main(String[] args) {
        int runs = args.length > 0 ? Integer.parseInt(args[0]) : 600;
        for (int run = 0; run < runs; run++) {
            oneRun(5 + next(90), 2 + next(15));
        }
        everythingWasSeen();
        CHECK.end();
    }

    private static int next(int bound) {
        seed = seed * 6364136223846793005L + 1442695040888963407L;
        return (int) ((seed >>> 33) % bound);
    }

    private static int one(int[] numbers) {
        return numbers[next(numbers.length)];
    }

    /** Of a hundred calls so many add an instruction, as long as the program was not made thrifty. */
    private static void oneRun(int adding, int registers) {
        ThriftyStores x = new ThriftyStores();
        PlainStores plain = new PlainStores();
        for (int call = 0; call < CALLS; call++) {
            int luck = next(100);
            if (luck < (plain.isThrifty() ? 2 : adding)) {
                compare(x, plain, "add", instruction(registers));
            } else if (luck < 95) {
                ask(x, plain);
            } else if (next(plain.isThrifty() ? 8 : 3) == 0) {
                compare(x, plain, plain.isThrifty() == (next(5) != 0) ? "clear" : "thrift");
            } else {
                compare(x, plain, "run", next(2), next(4) == 0 ? one(EDGES_OF_STEPS) : 1 + next(5000));
            }
        }
    }

    private static int[] instruction(int registers) {
        if (next(15) == 0) {
            return new int[] {next(18) - 1, number(), number(), next(2) == 0 ? 0 : number()};
        }
        int a = next(registers);
        int b = next(registers);
        int target = next(next(2) == 0 ? 20 : 201);
        int kind = one(new int[] {0, 1, 1, 2, 3, 4, 5, 6, 7, 8, 8, 8, 8, 9, 9, 10, 10, 10, 10, 11, 12, 13, 13, 14, 15});
        switch (kind) {
            case Kinds.NUMBER:
                return new int[] {kind, a, next(4) - 1, 0};
            case Kinds.MOVE:
            case Kinds.LOAD:
            case Kinds.STORE:
                return new int[] {kind, a, b, 0};
            case Kinds.MAKE:
                return new int[] {kind, a, 1 + next(16), next(2)};
            case Kinds.PRINT:
                return new int[] {kind, a, 0, 0};
            case Kinds.JUMP:
                return new int[] {kind, target, 0, 0};
            case Kinds.IF:
                return new int[] {kind, a, target, 0};
            case Kinds.HALT:
            case Kinds.NOTHING:
                return new int[] {kind, 0, 0, 0};
            default:
                return new int[] {kind, a, b, next(registers)};
        }
    }

    private static int number() {
        switch (next(6)) {
            case 0:
                return one(EDGES);
            case 1:
                return next(202) - 1;
            default:
                return next(next(2) == 0 ? 3 : 16);
        }
    }

    private static void ask(ThriftyStores x, PlainStores plain) {
        String name = QUESTIONS[next(QUESTIONS.length)];
        int what = next(12) == 0 ? one(EDGES) : next(4);
        switch (name) {
            case "instruction":
                compare(x, plain, name, number(), what, next(2));
                break;
            case "fact":
                compare(x, plain, name, number(), what, unlessZero(what == 3), unlessZero(what >= 2));
                break;
            case "cell":
                compare(x, plain, name, number(), number(), what);
                break;
            case "fate":
            case "print":
                compare(x, plain, name, number());
                break;
            case "may":
            case "inside":
            case "free":
                compare(x, plain, name, number(), number());
                break;
            default:
                compare(x, plain, name);
                break;
        }
    }

    private static int unlessZero(boolean mustBeZero) {
        return mustBeZero && next(8) != 0 ? 0 : number();
    }

    private static void compare(ThriftyStores x, PlainStores plain, String name, int... p) {
        String want = plain.answer(name, p);
        String got;
        try {
            got = answer(x, name, p);
        } catch (RuntimeException e) {
            got = e.getClass().getSimpleName();
        }
        String call = name + Arrays.toString(p) + " answered " + got + ", due is " + want;
        CHECK.due(got.equals(want) ? name : call, got.equals(want), true);
        SEEN.add(name + " " + (want.endsWith("Exception") ? want : "answer"));
    }

    private static String answer(ThriftyStores x, String name, int[] p) {
        switch (name) {
            case "add":
                return "" + x.add(p[0], p[1], p[2], p[3]);
            case "clear":
                return "" + x.clear();
            case "thrift":
                return "" + x.thrift();
            case "size":
                return "" + x.size();
            case "instruction":
                return "" + x.instruction(p[0], p[1], p[2] == 1);
            case "fate":
                return "" + x.fate(p[0]);
            case "rounds":
                return "" + x.rounds();
            case "may":
                return "" + x.may(p[0], p[1]);
            case "inside":
                return "" + x.inside(p[0], p[1]);
            case "fact":
                return "" + x.fact(p[0], p[1], p[2], p[3]);
            case "free":
                return "" + x.free(p[0], p[1]);
            case "run":
                return "" + x.run(p[0] == 1, p[1]);
            default:
                return ofTheLastRun(x, name, p);
        }
    }

    private static String ofTheLastRun(ThriftyStores x, String name, int[] p) {
        switch (name) {
            case "steps":
                return "" + x.steps();
            case "printed":
                return "" + x.printed();
            case "print":
                return "" + x.print(p[0]);
            case "kept":
                return "" + x.kept();
            default:
                return "" + x.cell(p[0], p[1], p[2]);
        }
    }

    /** Each method has answered, and thrown each exception that it names. */
    private static void everythingWasSeen() {
        for (Method method : ThriftyStores.class.getDeclaredMethods()) {
            if (Modifier.isPublic(method.getModifiers())) {
                CHECK.due(method.getName() + " has answered", SEEN.contains(method.getName() + " answer"), true);
                for (Class<?> thrown : method.getExceptionTypes()) {
                    String refusal = method.getName() + " " + thrown.getSimpleName();
                    CHECK.due(refusal + " was seen", SEEN.contains(refusal), true);
                }
            }
        }
    }
}
