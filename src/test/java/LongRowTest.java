import java.util.ArrayList;
import java.util.List;
import java.util.Random;

/** shows and grew for rows up to 2^30, far longer than the LEAVES, with proofs of made-up numbers. */
public final class LongRowTest {
    private static final int LONGEST = 1 << 30;
    private static final int[] SIZES = {
        1, 2, 3, 4, 7, 8, 9, 600, 601, 1023, 1024, 1025, (1 << 29) - 1, 1 << 29, (1 << 29) + 1,
        LONGEST - 2, LONGEST - 1, LONGEST,
    };

    private final Check check = new Check();
    private final Random random = new Random(20261115);
    private LogTree x = new LogTree();

    public static void main(String[] args) {
        LongRowTest test = new LongRowTest();
        for (int n : SIZES) {
            test.places(n);
        }
        for (int i = 0; i < 300; i++) {
            test.places(1 + test.random.nextInt(LONGEST));
        }
        test.beyond();
        test.check.end();
    }

    private void places(int n) {
        for (int m : new int[] {0, 1, n / 2 - 1, n / 2, n / 2 + 1, n - 2, n - 1, n, random.nextInt(n)}) {
            if (m >= 0 && m < n) {
                shows(m, n);
            }
            if (m >= 1 && m <= n) {
                grew(m, n);
            }
        }
    }

    /** Whichever length the reference takes is the only one that may be taken. */
    private void shows(int m, int n) {
        int taken = 0;
        long v = random.nextLong();
        for (int length = 0; length <= 40; length++) {
            List<Long> proof = madeUp(length);
            Long head = Reference.headByPath(proof, m, n, v);
            String what = "shows " + m + " " + n + " by " + length;
            check.due(what, head != null, x.shows(m, n, v, head == null ? 0 : head));
            if (head != null) {
                taken++;
                check.due(what + ", other head", false, x.shows(m, n, v, ~head));
                check.due(what + ", other value", false, x.shows(m, n, ~v, head));
            }
        }
        check.due("lengths that show " + m + " " + n, 1, taken);
    }

    private void grew(int m, int n) {
        int taken = 0;
        long known = random.nextLong();
        for (int length = 0; length <= 40; length++) {
            List<Long> proof = madeUp(length);
            long[] heads = Reference.headsBySteps(proof, m, n, known);
            String what = "grew " + m + " " + n + " by " + length;
            long before = heads == null ? known : heads[0];
            long head = heads == null ? known : heads[1];
            check.due(what, heads != null, x.grew(m, n, before, head));
            if (heads != null) {
                taken++;
                check.due(what + ", other old head", false, x.grew(m, n, ~before, head));
                check.due(what + ", other new head", false, x.grew(m, n, before, ~head));
            }
        }
        check.due("lengths that show growth " + m + " " + n, 1, taken);
    }

    /** One beyond the longest row everything is false, even where the walk would make the head. */
    private void beyond() {
        for (int length = 0; length <= 40; length++) {
            List<Long> proof = madeUp(length);
            Long head = Reference.headByPath(proof, 5, LONGEST + 1, 7);
            if (head != null) {
                check.due("shows beyond by " + length, false, x.shows(5, LONGEST + 1, 7, head));
            }
            long[] heads = Reference.headsBySteps(proof, 6, LONGEST + 1, 7);
            if (heads != null) {
                check.due("grew beyond by " + length, false, x.grew(6, LONGEST + 1, heads[0], heads[1]));
            }
        }
        x.length(0);
        check.due("grew beyond, m is n", false, x.grew(LONGEST + 1, LONGEST + 1, 7, 7));
        check.due("grew longest, m is n", true, x.grew(LONGEST, LONGEST, 7, 7));
    }

    /** On a new object each time, as one object is good for 512 calls. */
    private List<Long> madeUp(int length) {
        List<Long> proof = new ArrayList<>();
        x = new LogTree();
        x.length(length);
        for (int i = 0; i < length; i++) {
            proof.add(random.nextLong());
            x.alter(i, proof.get(i));
        }
        return proof;
    }
}
