import java.util.function.LongSupplier;

/** Counts and prints the answers that are not the ones that are due. */
final class Check {
    private final String about;
    private String sentence = "";
    private int wrong = 0;
    private int asked = 0;

    Check(String about) {
        this.about = about;
    }

    /** Names the document's sentence that the answers from here on stand for. */
    void under(String words) {
        sentence = " [" + words + "]";
    }

    void due(String call, long got, long want) {
        asked++;
        if (got != want) {
            tell(call + " answered " + got + ", due is " + want);
        }
    }

    void due(String call, boolean got, boolean want) {
        due(call, got ? 1L : 0L, want ? 1L : 0L);
    }

    void noIndex(String call, LongSupplier asking) {
        refused(call, asking, IndexOutOfBoundsException.class);
    }

    void noArgument(String call, LongSupplier asking) {
        refused(call, asking, IllegalArgumentException.class);
    }

    void noState(String call, LongSupplier asking) {
        refused(call, asking, IllegalStateException.class);
    }

    void refused(String call, LongSupplier asking, Class<? extends RuntimeException> want) {
        asked++;
        String got;
        try {
            got = "answered " + asking.getAsLong();
        } catch (RuntimeException e) {
            if (e.getClass() == want) {
                return;
            }
            got = "threw " + e;
        }
        tell(call + " " + got + ", due is " + want.getName());
    }

    private void tell(String fault) {
        wrong++;
        System.out.println(about + sentence + ": " + fault);
    }

    static long bit(boolean answer) {
        return answer ? 1L : 0L;
    }

    /** Ends the test with exit code 1 if an answer was wrong, or none was asked for. */
    void end() {
        System.out.println(about + ": " + asked + " answers, " + wrong + " wrong");
        if (wrong != 0 || asked == 0) {
            System.exit(1);
        }
    }
}
