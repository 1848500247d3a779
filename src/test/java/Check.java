import java.util.function.IntSupplier;

/** Counts the answers that are not as due, and says each of them. */
final class Check {
    static final String ARGUMENT = "throws.IllegalArgumentException";
    static final String STATE = "throws.IllegalStateException";
    static final String ELEMENT = "throws.NoSuchElementException";

    private static final int MOST_SHOWN = 40;

    private final String title;
    private int asked;
    private int wrong;

    Check(String title) {
        this.title = title;
    }

    static String answerOf(IntSupplier call) {
        try {
            return Integer.toString(call.getAsInt());
        } catch (RuntimeException e) {
            return "throws." + e.getClass().getSimpleName();
        }
    }

    void due(String call, IntSupplier got, int want) {
        due(call, got, Integer.toString(want));
    }

    void due(String call, IntSupplier got, String want) {
        same(call, answerOf(got), want);
    }

    void same(String call, String answer, String want) {
        asked++;
        if (answer.equals(want)) {
            return;
        }
        wrong++;
        if (wrong <= MOST_SHOWN) {
            System.out.println(title + ": " + call + " answered " + answer + ", due is " + want);
        }
    }

    boolean failed() {
        return wrong != 0;
    }

    void end() {
        System.out.println(title + ": " + asked + " answers, " + wrong + " not as due");
        if (failed()) {
            System.exit(1);
        }
    }
}
