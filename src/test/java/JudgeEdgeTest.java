import java.util.ArrayList;
import java.util.List;

/** Promises 12 and 13: each sentence that names a boundary, in a method of its own. */
public final class JudgeEdgeTest {
    private static final int LONGEST = 1 << 30;
    private static final int HALF = 1 << 29;
    private static final int LEAST = Integer.MIN_VALUE;
    private static final int GREATEST = Integer.MAX_VALUE;
    private static final int[] LEAVES = {0, 1, 5, 600};
    private static final long V = 41;
    private static final long OLD = 43;

    private final Check check = new Check();

    public static void main(String[] args) {
        JudgeEdgeTest test = new JudgeEdgeTest();
        test.showsOne();
        test.showsTwo();
        test.showsAsLong();
        test.showsThisHeadAlone();
        test.showsExtremes();
        test.showsWhateverLeaves();
        test.showsUpToTheLongest();
        test.showsBeyondTheLongest();
        test.showsOutside();
        test.grewToTheSame();
        test.grewAsLong();
        test.grewTheseHeadsAlone();
        test.grewWhateverLeaves();
        test.grewKnown();
        test.grewUpToTheLongest();
        test.grewFarUpToTheLongest();
        test.grewBeyondTheLongest();
        test.grewOutside();
        test.check.end();
    }

    private static long number(int i) {
        return Start.number(i);
    }

    private static LogTree proof(int length) {
        return Start.leavesAndProof(0, length);
    }

    private static List<Long> numbers(int length) {
        List<Long> row = new ArrayList<>();
        for (int i = 0; i < length; i++) {
            row.add(number(i));
        }
        return row;
    }

    /** The head of 2^length LEAVES, the bits of m telling the sides. */
    private static long headOfWholeRow(int m, int length) {
        long made = Reference.leaf(V);
        for (int i = 0; i < length; i++) {
            boolean right = (m >> i & 1) == 1;
            made = right ? Reference.node(number(i), made) : Reference.node(made, number(i));
        }
        return made;
    }

    private void dueShows(boolean due, int length, int m, int n, long head) {
        check.onlyLooks("shows(" + m + ", " + n + ", .., " + head + ") by " + length, due ? 1 : 0,
                () -> proof(length), x -> x.shows(m, n, V, head) ? 1 : 0);
    }

    private void dueGrew(boolean due, int length, int m, int n, long before, long head) {
        check.onlyLooks("grew(" + m + ", " + n + ", " + before + ", " + head + ") by " + length, due ? 1 : 0,
                () -> proof(length), x -> x.grew(m, n, before, head) ? 1 : 0);
    }

    private void showsOne() {
        check.about("A PROOF SHOWS v at m in n: PATH for n 1 none");
        dueShows(true, 0, 0, 1, Reference.leaf(V));
        dueShows(false, 0, 0, 1, V);
        dueShows(false, 0, 0, 1, 0);
        dueShows(false, 1, 0, 1, Reference.leaf(V));
        dueShows(false, 1, 0, 1, headOfWholeRow(0, 1));
        dueShows(false, 40, 0, 1, Reference.leaf(V));
    }

    private void showsTwo() {
        check.about("A PROOF SHOWS v at m in n: m below k, else");
        long left = Reference.node(Reference.leaf(V), number(0));
        long right = Reference.node(number(0), Reference.leaf(V));
        dueShows(true, 1, 0, 2, left);
        dueShows(false, 1, 0, 2, right);
        dueShows(true, 1, 1, 2, right);
        dueShows(false, 1, 1, 2, left);
        dueShows(true, 1, 2, 3, right);
        dueShows(true, 1, 512, 513, right);
        dueShows(true, 1, HALF, HALF + 1, right);
        dueShows(true, 2, 1, 3, Reference.node(right, number(1)));
        dueShows(false, 2, 2, 3, Reference.node(right, number(1)));
    }

    /** Both with the head that so many numbers would make and with the right proof's head. */
    private void showsAsLong() {
        check.about("SHOWS v at m in n .. if it is as long as a PATH of m in n");
        int[][] rows = {{0, 1, 0}, {0, 2, 1}, {1, 2, 1}, {0, 3, 2}, {2, 3, 1}, {0, 600, 10}, {511, 600, 10},
            {512, 600, 8}, {599, 600, 6}, {0, LONGEST, 30}, {LONGEST - 1, LONGEST, 30}, {HALF, HALF + 1, 1}};
        for (int[] row : rows) {
            long head = Reference.headByPath(numbers(row[2]), row[0], row[1], V);
            for (int length = 0; length <= 40; length++) {
                LogTree x = proof(length);
                String what = "shows(" + row[0] + ", " + row[1] + ") by " + length;
                check.due(what, length == row[2], x.shows(row[0], row[1], V, head));
                check.due(what + ", last left out", length == row[2] && length == 0,
                        x.shows(row[0], row[1], V, headOfWholeRow(row[0], Math.max(length - 1, 0))));
                if (length != row[2]) {
                    check.due(what + ", all taken", false,
                            x.shows(row[0], row[1], V, headOfWholeRow(row[0], length)));
                }
            }
        }
    }

    private void showsThisHeadAlone() {
        check.about("SHOWS: it makes this HEAD of n LEAVES, of which LEAF m is that of v");
        for (int length : new int[] {0, 1, 30}) {
            int n = 1 << length;
            long head = headOfWholeRow(n - 1, length);
            LogTree x = proof(length);
            check.due("shows in " + n, true, x.shows(n - 1, n, V, head));
            for (int bit = 0; bit < 64; bit++) {
                check.due("head's bit " + bit, false, x.shows(n - 1, n, V, head ^ 1L << bit));
                check.due("v's bit " + bit, false, x.shows(n - 1, n, V ^ 1L << bit, head));
            }
            for (int i = 0; i < length; i++) {
                x.alter(i, ~number(i));
                check.due("number " + i + " altered", false, x.shows(n - 1, n, V, head));
                x.alter(i, number(i));
            }
            check.due("shows in " + n + " again", true, x.shows(n - 1, n, V, head));
        }
    }

    private void showsExtremes() {
        check.about("SHOWS: longs of every size");
        for (long v : new long[] {Long.MIN_VALUE, Long.MAX_VALUE, -1, 0, 1, 2}) {
            LogTree x = new LogTree();
            check.due("shows " + v + " alone", true, x.shows(0, 1, v, Reference.leaf(v)));
            check.due("shows " + v + " alone, v as head", false, x.shows(0, 1, v, v));
            x.length(1);
            x.alter(0, v);
            check.due("shows " + v + " left", true, x.shows(0, 2, v, Reference.node(Reference.leaf(v), v)));
            check.due("shows " + v + " right", true, x.shows(1, 2, v, Reference.node(v, Reference.leaf(v))));
        }
        LogTree x = new LogTree();
        check.due("shows 1, whose LEAF is 0", true, x.shows(0, 1, 1, 0));
        check.due("shows 0 by 0", false, x.shows(0, 1, 0, 0));
    }

    private void showsWhateverLeaves() {
        check.about("12: n up to 2^30, whatever LEAVES there are");
        for (int leaves : LEAVES) {
            for (int length : new int[] {0, 1, 3, 10, 30}) {
                int n = 1 << length;
                for (int m : new int[] {0, n / 2, n - 1}) {
                    check.onlyLooks("shows(" + m + ", " + n + ") beside " + leaves, 1,
                            () -> Start.leavesAndProof(leaves, length),
                            x -> x.shows(m, n, V, headOfWholeRow(m, length)) ? 1 : 0);
                }
            }
        }
        LogTree x = Start.leaves(600);
        long head = x.head(600);
        x.path(599, 600);
        x.cut(0);
        check.due("shows what went", true, x.shows(599, 600, Start.value(599), head));
    }

    private void showsUpToTheLongest() {
        check.about("12: n up to 2^30");
        for (int m : new int[] {0, 1, HALF - 1, HALF, HALF + 1, LONGEST - 2, LONGEST - 1}) {
            dueShows(true, 30, m, LONGEST, headOfWholeRow(m, 30));
            dueShows(false, 30, m, LONGEST, ~headOfWholeRow(m, 30));
            dueShows(false, 30, m ^ 1, LONGEST, headOfWholeRow(m, 30));
            dueShows(false, 29, m, LONGEST, headOfWholeRow(m, 30));
            dueShows(false, 31, m, LONGEST, headOfWholeRow(m, 30));
        }
        for (int m : new int[] {0, HALF - 1, HALF, LONGEST - 3}) {
            dueShows(true, 30, m, LONGEST - 1, headOfWholeRow(m, 30));
        }
        // The last of 2^30 - 1 goes right 29 times and has no neighbour.
        long last = Reference.leaf(V);
        for (int i = 0; i < 29; i++) {
            last = Reference.node(number(i), last);
        }
        dueShows(true, 29, LONGEST - 2, LONGEST - 1, last);
        dueShows(false, 30, LONGEST - 2, LONGEST - 1, Reference.node(number(29), last));
    }

    /** With the heads that the walk would make, if it were made. */
    private void showsBeyondTheLongest() {
        check.about("12: false, too, if not .. n <= 2^30");
        dueShows(false, 1, LONGEST, LONGEST + 1, headOfWholeRow(1, 1));
        dueShows(false, 31, 0, LONGEST + 1, headOfWholeRow(0, 31));
        dueShows(false, 31, LONGEST - 1, LONGEST + 1, headOfWholeRow(LONGEST - 1, 31));
        dueShows(false, 31, 0, GREATEST, headOfWholeRow(0, 31));
        dueShows(false, 30, 0, LONGEST + 1, headOfWholeRow(0, 30));
        dueShows(false, 30, GREATEST - 1, GREATEST, headOfWholeRow(-1, 30));
        for (int length = 0; length <= 40; length++) {
            LogTree x = proof(length);
            for (int n : new int[] {LONGEST + 1, LONGEST + 2, GREATEST}) {
                for (int m : new int[] {0, n - 1}) {
                    String what = "shows(" + m + ", " + n + ") by " + length;
                    check.due(what, false, x.shows(m, n, V, headOfWholeRow(m, length)));
                    Long head = Reference.headByPath(numbers(length), m, n, V);
                    check.due(what + ", its head", false, head != null && x.shows(m, n, V, head));
                }
            }
        }
    }

    private void showsOutside() {
        check.about("12: false, too, if not 0 <= m < n");
        int[][] wrong = {{-1, 1}, {-1, 2}, {-1, 0}, {-1, -1}, {-2, -1}, {LEAST, 1}, {LEAST, 2}, {LEAST, LEAST},
            {LEAST, GREATEST}, {0, 0}, {1, 1}, {2, 2}, {2, 1}, {3, 2}, {0, -1}, {0, -2}, {0, LEAST}, {GREATEST, 1},
            {GREATEST, 2}, {GREATEST, GREATEST}, {GREATEST, LEAST}, {-1, LONGEST}, {LONGEST, LONGEST},
            {LONGEST + 1, LONGEST}, {-LONGEST, LONGEST}, {LEAST, LONGEST}};
        for (int[] pair : wrong) {
            for (int length : new int[] {0, 1, 2, 30, 31, 40}) {
                for (int side : new int[] {0, -1}) {
                    dueShows(false, length, pair[0], pair[1], headOfWholeRow(side, length));
                }
            }
            dueShows(false, 0, pair[0], pair[1], 0);
        }
    }

    private void grewToTheSame() {
        check.about("SHOWS an old head at m and a new one at n: STEPS, m is n: none if known");
        for (int n : new int[] {1, 2, 3, 5, 600, 601, HALF, LONGEST - 1, LONGEST}) {
            dueGrew(true, 0, n, n, OLD, OLD);
            dueGrew(true, 0, n, n, 0, 0);
            dueGrew(true, 0, n, n, Long.MIN_VALUE, Long.MIN_VALUE);
            dueGrew(false, 0, n, n, OLD, OLD + 1);
            dueGrew(false, 0, n, n, Long.MIN_VALUE, Long.MAX_VALUE);
            dueGrew(false, 1, n, n, OLD, OLD);
            dueGrew(false, 1, n, n, number(0), number(0));
            dueGrew(false, 40, n, n, OLD, OLD);
        }
    }

    private void grewAsLong() {
        check.about("SHOWS an old head at m and a new one at n if it is as long as the STEPS");
        int[][] rows = {{1, 1, 0}, {1, 2, 1}, {2, 2, 0}, {2, 3, 1}, {3, 4, 3}, {3, 5, 4}, {4, 5, 1}, {1, 600, 10},
            {511, 600, 11}, {512, 600, 1}, {513, 600, 9}, {599, 600, 7}, {600, 600, 0}, {1, LONGEST, 30},
            {HALF, LONGEST, 1}, {HALF + 1, LONGEST, 31}, {LONGEST - 1, LONGEST, 31}, {LONGEST, LONGEST, 0},
            {LONGEST - 2, LONGEST - 1, 30}};
        for (int[] row : rows) {
            long[] right = Reference.headsBySteps(numbers(row[2]), row[0], row[1], OLD);
            for (int length = 0; length <= 40; length++) {
                LogTree x = proof(length);
                String what = "grew(" + row[0] + ", " + row[1] + ") by " + length;
                check.due(what, length == row[2], x.grew(row[0], row[1], right[0], right[1]));
                if (length != row[2]) {
                    check.due(what + ", one head", false, x.grew(row[0], row[1], OLD, OLD));
                    check.due(what + ", number 0", false, x.grew(row[0], row[1], number(0), number(0)));
                }
            }
        }
    }

    private void grewTheseHeadsAlone() {
        check.about("SHOWS: it makes the old one HEAD of the first m LEAVES, and the new one HEAD of n");
        int[][] rows = {{1, 2, 1}, {3, 4, 3}, {5, 6, 3}, {HALF + 1, LONGEST, 31}, {1, LONGEST, 30}};
        for (int[] row : rows) {
            int m = row[0];
            int n = row[1];
            long[] heads = Reference.headsBySteps(numbers(row[2]), m, n, OLD);
            LogTree x = proof(row[2]);
            String what = "grew(" + m + ", " + n + ")";
            check.due(what, true, x.grew(m, n, heads[0], heads[1]));
            check.due(what + ", heads exchanged", false, x.grew(m, n, heads[1], heads[0]));
            check.due(what + ", old head twice", false, x.grew(m, n, heads[0], heads[0]));
            check.due(what + ", new head twice", false, x.grew(m, n, heads[1], heads[1]));
            for (int bit = 0; bit < 64; bit++) {
                check.due(what + ", old head's bit " + bit, false, x.grew(m, n, heads[0] ^ 1L << bit, heads[1]));
                check.due(what + ", new head's bit " + bit, false, x.grew(m, n, heads[0], heads[1] ^ 1L << bit));
            }
            for (int i = 0; i < row[2]; i++) {
                x.alter(i, ~number(i));
                check.due(what + ", number " + i + " altered", false, x.grew(m, n, heads[0], heads[1]));
                x.alter(i, number(i));
            }
        }
    }

    private void grewWhateverLeaves() {
        check.about("13: whatever LEAVES there are");
        int[][] rows = {{1, 1, 0}, {1, 2, 1}, {3, 4, 3}, {599, 600, 7}, {600, 601, 5}, {LONGEST - 1, LONGEST, 31}};
        for (int leaves : LEAVES) {
            for (int[] row : rows) {
                long[] heads = Reference.headsBySteps(numbers(row[2]), row[0], row[1], OLD);
                check.onlyLooks("grew(" + row[0] + ", " + row[1] + ") beside " + leaves, 1,
                        () -> Start.leavesAndProof(leaves, row[2]),
                        x -> x.grew(row[0], row[1], heads[0], heads[1]) ? 1 : 0);
            }
        }
        LogTree x = Start.leaves(600);
        long before = x.head(599);
        long head = x.head(600);
        x.steps(599, 600);
        x.cut(0);
        check.due("grew to what went", true, x.grew(599, 600, before, head));
    }

    private void grewKnown() {
        check.about("SHOWS: (where a HEAD is known it is the old one)");
        dueGrew(true, 1, 1, 2, OLD, Reference.node(OLD, number(0)));
        dueGrew(true, 1, 2, 3, OLD, Reference.node(OLD, number(0)));
        dueGrew(true, 1, 512, 600, OLD, Reference.node(OLD, number(0)));
        dueGrew(true, 2, 2, 8, OLD, Reference.node(Reference.node(OLD, number(0)), number(1)));
        dueGrew(false, 2, 2, 4, number(0), Reference.node(number(0), number(1)));
        dueGrew(false, 1, 1, 2, OLD, Reference.node(number(0), OLD));
        check.about("STEPS: not known .. their HEAD alone");
        long before = Reference.node(number(2), number(0));
        long head = Reference.node(number(2), Reference.node(number(0), number(1)));
        dueGrew(true, 3, 3, 4, before, head);
        dueGrew(false, 3, 3, 4, number(0), head);
        dueGrew(false, 2, 3, 4, OLD, Reference.node(number(1), Reference.node(OLD, number(0))));
    }

    private void grewUpToTheLongest() {
        check.about("13: n <= 2^30");
        long made = OLD;
        for (int i = 0; i < 30; i++) {
            made = Reference.node(made, number(i));
        }
        dueGrew(true, 30, 1, LONGEST, OLD, made);
        dueGrew(false, 30, 1, LONGEST, OLD, ~made);
        dueGrew(true, 30, 1, HALF + 1, OLD, made);
        dueGrew(true, 1, HALF, LONGEST, OLD, Reference.node(OLD, number(0)));
        dueGrew(true, 1, HALF, LONGEST - 1, OLD, Reference.node(OLD, number(0)));
        dueGrew(true, 1, HALF, HALF + 1, OLD, Reference.node(OLD, number(0)));
        dueGrew(true, 0, LONGEST, LONGEST, OLD, OLD);
        dueGrew(true, 0, LONGEST - 1, LONGEST - 1, OLD, OLD);
    }

    /** 2^30 - 1 goes right at each split: one number for itself, one to its right, 29 to its left. */
    private void grewFarUpToTheLongest() {
        check.about("13: m <= n <= 2^30");
        long before = number(0);
        long head = Reference.node(number(0), number(1));
        for (int i = 2; i <= 30; i++) {
            before = Reference.node(number(i), before);
            head = Reference.node(number(i), head);
        }
        dueGrew(true, 31, LONGEST - 1, LONGEST, before, head);
        dueGrew(false, 31, LONGEST - 1, LONGEST, ~before, head);
        dueGrew(false, 31, LONGEST - 1, LONGEST, before, ~head);
        dueGrew(false, 30, LONGEST - 1, LONGEST, before, head);
        dueGrew(false, 32, LONGEST - 1, LONGEST, before, head);
    }

    private void grewBeyondTheLongest() {
        check.about("13: false, too, if not .. n <= 2^30");
        dueGrew(false, 0, LONGEST + 1, LONGEST + 1, OLD, OLD);
        dueGrew(false, 0, GREATEST, GREATEST, OLD, OLD);
        dueGrew(false, 1, LONGEST, LONGEST + 1, OLD, Reference.node(OLD, number(0)));
        dueGrew(false, 1, LONGEST, GREATEST, OLD, Reference.node(OLD, number(0)));
        dueGrew(false, 2, HALF, LONGEST + 1, OLD, Reference.node(Reference.node(OLD, number(0)), number(1)));
        for (int length = 0; length <= 40; length++) {
            LogTree x = proof(length);
            for (int n : new int[] {LONGEST + 1, LONGEST + 2, GREATEST}) {
                for (int m : new int[] {1, LONGEST - 1, n - 1}) {
                    long[] heads = Reference.headsBySteps(numbers(length), m, n, OLD);
                    check.due("grew(" + m + ", " + n + ") by " + length, false,
                            heads != null && x.grew(m, n, heads[0], heads[1]));
                    check.due("grew(" + m + ", " + n + ") by " + length + ", one head", false,
                            x.grew(m, n, OLD, OLD));
                }
            }
        }
    }

    private void grewOutside() {
        check.about("13: false, too, if not 1 <= m <= n");
        int[][] wrong = {{0, 0}, {0, 1}, {0, 2}, {0, LONGEST}, {-1, -1}, {-1, 0}, {-1, 1}, {-1, LONGEST},
            {LEAST, LEAST}, {LEAST, 1}, {LEAST, LONGEST}, {LEAST, GREATEST}, {1, 0}, {2, 1}, {3, 2}, {1, -1},
            {1, LEAST}, {GREATEST, 1}, {GREATEST, LEAST}, {GREATEST, LONGEST}, {LONGEST + 1, LONGEST},
            {601, 600}, {-LONGEST, LONGEST}};
        for (int[] pair : wrong) {
            for (int length : new int[] {0, 1, 2, 30, 31, 40}) {
                long made = OLD;
                for (int i = 0; i < length; i++) {
                    made = Reference.node(made, number(i));
                }
                dueGrew(false, length, pair[0], pair[1], OLD, made);
                dueGrew(false, length, pair[0], pair[1], OLD, OLD);
                dueGrew(false, length, pair[0], pair[1], number(0), number(0));
            }
            dueGrew(false, 0, pair[0], pair[1], 0, 0);
        }
    }
}
