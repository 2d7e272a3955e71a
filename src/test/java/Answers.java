import java.util.ArrayList;
import java.util.List;
import java.util.function.Supplier;
import java.util.function.ToLongFunction;

/** All that an object answers without being changed by it, refusals too, so that two objects can be compared. */
final class Answers {
    /** Nothing is promised behind an object's 512th call, so no object is asked more than this. */
    private static final int MOST_ASKED = 250;
    private static final String REFUSED = "throws ";
    private static final int[] REGISTERS = {-1, 0, 1, 2, 3, 4, 15, 16};

    private record Question(String name, ToLongFunction<ThriftyStores> asking) {
    }

    private final List<Question> questions;

    private Answers(List<Question> questions) {
        this.questions = questions;
    }

    /** Asks about the instructions and points given, and about all that may be asked of a run. */
    Answers(int... points) {
        questions = new ArrayList<>();
        ask("size()", ThriftyStores::size);
        ask("rounds()", ThriftyStores::rounds);
        for (int i : points) {
            askOfInstruction(i);
            for (int site : points) {
                ask("inside(" + site + ", " + i + ")", x -> Check.bit(x.inside(site, i)));
            }
            for (int r : REGISTERS) {
                askOfRegister(i, r);
            }
            ask("fact(" + i + ", 3, 0, 0)", x -> Check.bit(x.fact(i, 3, 0, 0)));
        }
        askOfRun();
    }

    private void ask(String name, ToLongFunction<ThriftyStores> asking) {
        questions.add(new Question(name, asking));
    }

    private void askOfInstruction(int i) {
        ask("fate(" + i + ")", x -> x.fate(i));
        for (int what = 0; what < 4; what++) {
            int part = what;
            ask("instruction(" + i + ", " + part + ", true)", x -> x.instruction(i, part, true));
            ask("instruction(" + i + ", " + part + ", false)", x -> x.instruction(i, part, false));
        }
    }

    private void askOfRegister(int i, int r) {
        ask("may(" + r + ", " + i + ")", x -> Check.bit(x.may(r, i)));
        ask("free(" + i + ", " + r + ")", x -> Check.bit(x.free(i, r)));
        ask("fact(" + i + ", 2, " + r + ", 0)", x -> Check.bit(x.fact(i, 2, r, 0)));
        for (int s : REGISTERS) {
            ask("fact(" + i + ", 0, " + r + ", " + s + ")", x -> Check.bit(x.fact(i, 0, r, s)));
            ask("fact(" + i + ", 1, " + r + ", " + s + ")", x -> Check.bit(x.fact(i, 1, r, s)));
        }
    }

    private void askOfRun() {
        ask("steps()", ThriftyStores::steps);
        ask("printed()", ThriftyStores::printed);
        ask("kept()", ThriftyStores::kept);
        int[] numbers = {-1, 0, 1, 2, 3, 198, 199, 200};
        for (int i : numbers) {
            ask("print(" + i + ")", x -> x.print(i));
        }
        int[] objects = {-1, 0, 1, 2};
        int[] places = {-1, 0, 1, 2, 3};
        for (int i : objects) {
            for (int k : places) {
                for (int what = 0; what < 3; what++) {
                    int part = what;
                    ask("cell(" + i + ", " + k + ", " + part + ")", x -> x.cell(i, k, part));
                }
            }
        }
    }

    /**
     * The same questions, those first that such an object answers: it is asked them before any that it refuses,
     * so that what a refusal may have changed is not hidden by another one.
     */
    Answers answeredFirst(Supplier<ThriftyStores> making) {
        List<String> answers = of(making);
        List<Question> sorted = new ArrayList<>();
        List<Question> refused = new ArrayList<>();
        for (int k = 0; k < answers.size(); k++) {
            (answers.get(k).contains(REFUSED) ? refused : sorted).add(questions.get(k));
        }
        sorted.addAll(refused);
        return new Answers(sorted);
    }

    /** The answers of objects that are all made alike, each with the name of its question. */
    List<String> of(Supplier<ThriftyStores> making) {
        List<String> answers = new ArrayList<>();
        ThriftyStores x = null;
        for (int k = 0; k < questions.size(); k++) {
            if (k % MOST_ASKED == 0) {
                x = making.get();
            }
            Question question = questions.get(k);
            answers.add(question.name() + ": " + answer(x, question.asking()));
        }
        return answers;
    }

    static String answer(ThriftyStores x, ToLongFunction<ThriftyStores> asking) {
        try {
            return String.valueOf(asking.applyAsLong(x));
        } catch (RuntimeException e) {
            return REFUSED + e.getClass().getName();
        }
    }
}
