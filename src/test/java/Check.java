import java.util.function.Supplier;
import java.util.function.ToLongFunction;

/** Counts and prints what is not as due; a test ends with end(). */
final class Check {
    /** A call whose answer is a number; a boolean counts 1 or 0. */
    interface Call {
        long answer();
    }

    private static final int MOST_PRINTED = 50;

    private int made = 0;
    private int wrong = 0;
    private String sentence = "";

    /** What follows tests this sentence of the document. */
    void about(String text) {
        sentence = "'" + text + "' ";
    }

    void due(String what, long want, long got) {
        made++;
        if (got != want) {
            tell(what + " answered " + got + ", due is " + want);
        }
    }

    void due(String what, boolean want, boolean got) {
        due(what, want ? 1 : 0, got ? 1 : 0);
    }

    void dueText(String what, String want, String got) {
        made++;
        if (!want.equals(got)) {
            tell(what + " answered " + got + ", due is " + want);
        }
    }

    void dueThrow(String what, Class<? extends RuntimeException> want, Call call) {
        dueText(what, "throws " + want.getName(), outcome(call));
    }

    /** The call throws, and again if it is made again, and nothing has changed behind it. */
    void refused(String what, Class<? extends RuntimeException> want,
            Supplier<LogTree> start, ToLongFunction<LogTree> call) {
        LogTree x = start.get();
        dueThrow(what, want, () -> call.applyAsLong(x));
        dueThrow(what + " again", want, () -> call.applyAsLong(x));
        dueText(what + ": state", State.of(start.get()), State.of(x));
    }

    /** The call answers this, and again if it is made again, and nothing has changed behind it. */
    void onlyLooks(String what, long want, Supplier<LogTree> start, ToLongFunction<LogTree> call) {
        LogTree x = start.get();
        dueText(what, "" + want, outcome(() -> call.applyAsLong(x)));
        dueText(what + " again", "" + want, outcome(() -> call.applyAsLong(x)));
        dueText(what + ": state", State.of(start.get()), State.of(x));
    }

    /** The exact class counts: one that is derived from the class that is due is wrong. */
    static String outcome(Call call) {
        try {
            return "" + call.answer();
        } catch (RuntimeException e) {
            return "throws " + e.getClass().getName();
        }
    }

    void end() {
        System.out.println(made + " answers looked at, " + wrong + " not as due");
        if (wrong != 0 || made == 0) {
            System.exit(1);
        }
    }

    private void tell(String text) {
        wrong++;
        if (wrong <= MOST_PRINTED) {
            System.out.println(sentence + text);
        }
    }
}
