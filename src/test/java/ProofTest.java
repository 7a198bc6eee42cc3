import java.util.ArrayList;
import java.util.List;

/** Every PATH and all STEPS of short rows, and some of the longest, number by number. */
public final class ProofTest {
    private static final int ALL_UP_TO = 40;
    private static final int[] LONG = {127, 128, 129, 511, 512, 513, 599, 600};

    private final Check check = new Check();
    private final List<Long> values = new ArrayList<>();
    private LogTree x = new LogTree();

    public static void main(String[] args) {
        ProofTest test = new ProofTest();
        for (int i = 0; i < 600; i++) {
            test.values.add(31L * i - 7);
        }
        for (int n = 1; n <= ALL_UP_TO; n++) {
            for (int m = 0; m <= n; m++) {
                test.both(m, n);
            }
        }
        for (int n : LONG) {
            for (int m : new int[] {0, 1, 2, 3, 64, 100, 126, 127, n / 2, n - 2, n - 1, n}) {
                test.both(m, n);
            }
        }
        test.check.end();
    }

    /** On a new object each time, as one object is good for 512 calls. */
    private void both(int m, int n) {
        x = new LogTree();
        for (int i = 0; i < 600; i += 200) {
            x.fill(200, values.get(i), 31);
        }
        List<Long> row = values.subList(0, n);
        long head = x.head(n);
        if (m < n) {
            String what = "path " + m + " " + n;
            numbers(what, Reference.path(m, row), x.path(m, n));
            check.due(what + " shows", true, x.shows(m, n, values.get(m), head));
        }
        if (m > 0) {
            String what = "steps " + m + " " + n;
            numbers(what, Reference.steps(m, row), x.steps(m, n));
            check.due(what + " show", true, x.grew(m, n, x.head(m), head));
        }
    }

    private void numbers(String what, List<Long> want, int length) {
        List<Long> got = new ArrayList<>();
        for (int i = 0; i < x.count(1); i++) {
            got.add(x.proof(i));
        }
        check.due(what, want.size(), length);
        check.dueText(what + ": PROOF", want.toString(), got.toString());
    }
}
