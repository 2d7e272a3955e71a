import java.util.ArrayList;
import java.util.List;
import java.util.function.Supplier;
import java.util.function.ToLongFunction;

/**
 * A call that throws changes nothing: in each state that an object may be in, each call that is refused there is
 * made, and all that later calls show must be as on an object that was never asked.
 */
public final class RefusalTest {
    private static final Check CHECK = new Check("RefusalTest");
    private static final Class<? extends RuntimeException> INDEX = IndexOutOfBoundsException.class;
    private static final Class<? extends RuntimeException> ARGUMENT = IllegalArgumentException.class;
    private static final Class<? extends RuntimeException> STATE = IllegalStateException.class;
    private static final int MIN = Integer.MIN_VALUE;
    private static final int MAX = Integer.MAX_VALUE;

    /** An object made in one way, whether it is thrifty, and how many numbers and KEPT objects its last run left. */
    private record State(String name, Supplier<ThriftyStores> making, boolean thrifty, int printed, int kept) {
        int size() {
            return making.get().size();
        }
    }

    private record Refusal(String call, ToLongFunction<ThriftyStores> asking, Class<? extends RuntimeException> due) {
    }

    private record Later(String call, ToLongFunction<ThriftyStores> asking) {
    }

    private RefusalTest() {
    }

    public static void main(String[] args) {
        CHECK.under("A call that throws changes nothing");
        for (State state : states()) {
            nothingIsChanged(state);
        }
        CHECK.end();
    }

    private static int[] in(int... row) {
        return Kinds.in(row);
    }

    /** Prints 5 and 0, and leaves two KEPT objects; its first STORE is DEAD, its first LOAD is FORWARDED. */
    private static ThriftyStores written() {
        return Kinds.program(in(Kinds.MAKE, 1, 2, 1), in(Kinds.NUMBER, 2, 5), in(Kinds.MAKE, 3, 1, 1),
                in(Kinds.STORE, 1, 4), in(Kinds.STORE, 1, 2), in(Kinds.LOAD, 4, 1), in(Kinds.PRINT, 4),
                in(Kinds.STORE, 3, 1), in(Kinds.PRINT, 0), in(Kinds.IF, 0, 200), in(Kinds.HALT));
    }

    private static ThriftyStores trapping() {
        return Kinds.program(in(Kinds.MAKE, 1, 1, 1), in(Kinds.PRINT, 0), in(Kinds.PRINT, 1));
    }

    private static ThriftyStores full() {
        ThriftyStores x = written();
        for (int i = x.size(); i < 200; i++) {
            x.add(Kinds.NUMBER, 15, i, 0);
        }
        return x;
    }

    private static ThriftyStores done(ThriftyStores x, List<ToLongFunction<ThriftyStores>> calls) {
        for (ToLongFunction<ThriftyStores> call : calls) {
            call.applyAsLong(x);
        }
        return x;
    }

    private static List<State> states() {
        ToLongFunction<ThriftyStores> run = x -> x.run(true, 5000);
        ToLongFunction<ThriftyStores> few = x -> x.run(true, 7);
        ToLongFunction<ThriftyStores> thrift = ThriftyStores::thrift;
        ToLongFunction<ThriftyStores> thriftyRun = x -> x.run(false, 5000);
        ToLongFunction<ThriftyStores> clear = ThriftyStores::clear;
        return List.of(
                new State("new", ThriftyStores::new, false, 0, 0),
                new State("empty and thrifty", Kinds::thrifty, true, 0, 0),
                new State("written", RefusalTest::written, false, 0, 0),
                new State("run", () -> done(written(), List.of(run)), false, 2, 2),
                new State("out of steps", () -> done(written(), List.of(few)), false, 1, 0),
                new State("trapped", () -> done(trapping(), List.of(run)), false, 1, 0),
                new State("thrifty", () -> done(written(), List.of(thrift)), true, 0, 0),
                new State("thrifty and run", () -> done(written(), List.of(thrift, thriftyRun)), true, 2, 2),
                new State("cleared", () -> done(written(), List.of(thrift, thriftyRun, clear)), false, 2, 2),
                new State("full", () -> done(full(), List.of(run)), false, 2, 2),
                new State("full and thrifty", () -> done(full(), List.of(run, thrift)), true, 2, 2));
    }

    /** What is done behind the refused call, before all is asked. */
    private static List<Later> laterCalls() {
        return List.of(
                new Later("nothing", x -> 0),
                new Later("add(11, 15, 0, 0)", x -> x.add(Kinds.PRINT, 15, 0, 0)),
                new Later("thrift()", ThriftyStores::thrift),
                new Later("run(true, 8)", x -> x.run(true, 8)),
                new Later("run(true, 5000)", x -> x.run(true, 5000)),
                new Later("run(false, 5000)", x -> x.run(false, 5000)),
                new Later("clear()", ThriftyStores::clear));
    }

    private static void nothingIsChanged(State state) {
        int size = state.size();
        Answers answers = size == 200 ? new Answers(-1, 0, 3, 4, 5, 7, 10, 199, 200, 201)
                : new Answers(-1, 0, 1, 3, 4, 5, 7, size - 1, size, size + 1);
        List<Refusal> refusals = refusals(state, size);
        for (Refusal refusal : refusals) {
            ThriftyStores x = state.making().get();
            CHECK.refused(state.name() + ": " + refusal.call(), () -> refusal.asking().applyAsLong(x), refusal.due());
        }
        for (Later later : laterCalls()) {
            List<String> due = new ArrayList<>();
            due.add(later.call() + ": " + Answers.answer(state.making().get(), later.asking()));
            Answers sorted = answers.answeredFirst(() -> asked(state.making().get(), later));
            due.addAll(sorted.of(() -> asked(state.making().get(), later)));
            for (Refusal refusal : refusals) {
                List<String> got = new ArrayList<>();
                got.add(later.call() + ": " + Answers.answer(refused(state, refusal), later.asking()));
                got.addAll(sorted.of(() -> asked(refused(state, refusal), later)));
                compare(state.name() + ": behind " + refusal.call() + " and " + later.call(), got, due);
            }
        }
    }

    private static ThriftyStores asked(ThriftyStores x, Later later) {
        Answers.answer(x, later.asking());
        return x;
    }

    private static ThriftyStores refused(State state, Refusal refusal) {
        ThriftyStores x = state.making().get();
        Answers.answer(x, refusal.asking());
        return x;
    }

    private static void compare(String where, List<String> got, List<String> due) {
        int different = 0;
        String first = "";
        for (int k = 0; k < due.size(); k++) {
            if (!got.get(k).equals(due.get(k))) {
                first = different == 0 ? ", first " + got.get(k) + " for " + due.get(k) : first;
                different++;
            }
        }
        CHECK.due(where + ", answers changed" + first, different, 0);
    }

    private static List<Refusal> refusals(State state, int size) {
        List<Refusal> all = new ArrayList<>();
        refusalsToChange(all, state, size);
        refusalsToRun(all, state);
        refusalsOfInstructions(all, state, size);
        refusalsOfFacts(all, state, size);
        refusalsOfTheRun(all, state);
        return all;
    }

    private static void refusalsToChange(List<Refusal> all, State state, int size) {
        int[][] wrong = {{-1, 0, 0, 0}, {16, 0, 0, 0}, {0, 16, 7, 0}, {1, 0, -1, 0}, {2, 1, 2, 16}, {8, 1, 0, 0},
            {8, 1, 17, 1}, {8, 1, 1, 2}, {11, 1, 1, 0}, {12, 201, 0, 0}, {13, 1, -1, 0}, {14, 1, 0, 0}, {15, 0, 0, 1}};
        for (int[] p : wrong) {
            all.add(new Refusal("add(" + p[0] + ", " + p[1] + ", " + p[2] + ", " + p[3] + ")",
                    x -> x.add(p[0], p[1], p[2], p[3]), ARGUMENT));
        }
        if (size == 200 || state.thrifty()) {
            all.add(new Refusal("add(0, 1, 77, 0)", x -> x.add(0, 1, 77, 0), STATE));
            all.add(new Refusal("add(14, 0, 0, 0)", x -> x.add(14, 0, 0, 0), STATE));
        }
        if (state.thrifty()) {
            all.add(new Refusal("thrift()", ThriftyStores::thrift, STATE));
        }
    }

    private static void refusalsToRun(List<Refusal> all, State state) {
        int[] wrong = {0, -1, 5001, MIN, MAX};
        for (int steps : wrong) {
            all.add(new Refusal("run(true, " + steps + ")", x -> x.run(true, steps), ARGUMENT));
            all.add(new Refusal("run(false, " + steps + ")", x -> x.run(false, steps), ARGUMENT));
        }
        if (!state.thrifty()) {
            all.add(new Refusal("run(false, 1)", x -> x.run(false, 1), STATE));
            all.add(new Refusal("run(false, 5000)", x -> x.run(false, 5000), STATE));
            all.add(new Refusal("rounds()", ThriftyStores::rounds, STATE));
        }
    }

    private static void refusalsOfInstructions(List<Refusal> all, State state, int size) {
        int[] none = {-1, size, MAX};
        for (int i : none) {
            all.add(new Refusal("instruction(" + i + ", 0, true)", x -> x.instruction(i, 0, true), INDEX));
            all.add(new Refusal("instruction(" + i + ", 4, false)", x -> x.instruction(i, 4, false), INDEX));
            all.add(new Refusal("fate(" + i + ")", x -> x.fate(i), INDEX));
            all.add(new Refusal("may(0, " + i + ")", x -> Check.bit(x.may(0, i)), INDEX));
            all.add(new Refusal("inside(" + i + ", 0)", x -> Check.bit(x.inside(i, 0)), INDEX));
            all.add(new Refusal("inside(0, " + i + ")", x -> Check.bit(x.inside(0, i)), INDEX));
        }
        all.add(new Refusal("may(-1, 0)", x -> Check.bit(x.may(-1, 0)), INDEX));
        all.add(new Refusal("may(16, 0)", x -> Check.bit(x.may(16, 0)), INDEX));
        if (size > 0) {
            all.add(new Refusal("instruction(0, 4, true)", x -> x.instruction(0, 4, true), ARGUMENT));
            all.add(new Refusal("instruction(0, -1, false)", x -> x.instruction(0, -1, false), ARGUMENT));
        }
        if (size > 0 && !state.thrifty()) {
            all.add(new Refusal("instruction(0, 0, false)", x -> x.instruction(0, 0, false), STATE));
            all.add(new Refusal("instruction(size() - 1, 3, false)", x -> x.instruction(size - 1, 3, false), STATE));
            all.add(new Refusal("fate(0)", x -> x.fate(0), STATE));
            all.add(new Refusal("may(1, 0)", x -> Check.bit(x.may(1, 0)), STATE));
            all.add(new Refusal("inside(0, 0)", x -> Check.bit(x.inside(0, 0)), STATE));
        }
    }

    private static void refusalsOfFacts(List<Refusal> all, State state, int size) {
        int[][] none = {{-1, 0, 0, 1}, {size + 1, 0, 0, 1}, {0, 0, -1, 1}, {0, 1, 16, 1}, {0, 0, 1, -1}, {0, 1, 1, 16},
            {size + 1, 4, 0, 0}, {size, 4, 16, 0}};
        for (int[] p : none) {
            all.add(factRefused(p, INDEX));
        }
        int[][] wrong = {{0, -1, 0, 0}, {size, 4, 0, 0}, {size, 2, 1, 1}, {size, 3, 1, 0}, {0, 3, 0, 1}};
        for (int[] p : wrong) {
            all.add(factRefused(p, ARGUMENT));
        }
        all.add(new Refusal("free(-1, 0)", x -> Check.bit(x.free(-1, 0)), INDEX));
        all.add(new Refusal("free(size() + 1, 0)", x -> Check.bit(x.free(size + 1, 0)), INDEX));
        all.add(new Refusal("free(0, 16)", x -> Check.bit(x.free(0, 16)), INDEX));
        all.add(new Refusal("free(0, -1)", x -> Check.bit(x.free(0, -1)), INDEX));
        if (!state.thrifty()) {
            all.add(factRefused(new int[] {size, 0, 1, 2}, STATE));
            all.add(factRefused(new int[] {0, 3, 0, 0}, STATE));
            all.add(new Refusal("free(size(), 15)", x -> Check.bit(x.free(size, 15)), STATE));
        }
    }

    private static Refusal factRefused(int[] p, Class<? extends RuntimeException> due) {
        return new Refusal("fact(" + p[0] + ", " + p[1] + ", " + p[2] + ", " + p[3] + ")",
                x -> Check.bit(x.fact(p[0], p[1], p[2], p[3])), due);
    }

    private static void refusalsOfTheRun(List<Refusal> all, State state) {
        all.add(new Refusal("print(-1)", x -> x.print(-1), INDEX));
        all.add(new Refusal("print(printed())", x -> x.print(state.printed()), INDEX));
        all.add(new Refusal("cell(-1, 0, 0)", x -> x.cell(-1, 0, 0), INDEX));
        all.add(new Refusal("cell(kept(), 0, 0)", x -> x.cell(state.kept(), 0, 0), INDEX));
        all.add(new Refusal("cell(0, -1, 3)", x -> x.cell(0, -1, 3), INDEX));
        all.add(new Refusal("cell(0, 2, 3)", x -> x.cell(0, 2, 3), INDEX));
        if (state.kept() > 0) {
            all.add(new Refusal("cell(0, 1, 3)", x -> x.cell(0, 1, 3), ARGUMENT));
            all.add(new Refusal("cell(1, 0, -1)", x -> x.cell(1, 0, -1), ARGUMENT));
        }
    }
}
