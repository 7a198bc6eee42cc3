import java.util.List;
import java.util.NoSuchElementException;

/** Promises 7 to 11: each sentence that names a boundary, in a method of its own. */
public final class ProofEdgeTest {
    private static final Class<IllegalArgumentException> ARGUMENT = IllegalArgumentException.class;
    private static final Class<NoSuchElementException> NO_ELEMENT = NoSuchElementException.class;
    private static final Class<IndexOutOfBoundsException> BOUNDS = IndexOutOfBoundsException.class;

    private static final int LEAST = Integer.MIN_VALUE;
    private static final int GREATEST = Integer.MAX_VALUE;
    private static final int[] SIZES = {0, 1, 2, 7, 512, 513, 599, 600};
    private static final int[] LENGTHS = {0, 1, 2, 39, 40};

    private final Check check = new Check();

    public static void main(String[] args) {
        ProofEdgeTest test = new ProofEdgeTest();
        test.pathOfOne();
        test.pathOnEitherSide();
        test.pathIsTheProof();
        test.pathOutside();
        test.pathBeyondTheLeaves();
        test.stepsOfAll();
        test.stepsNotKnown();
        test.stepsOnEitherSide();
        test.stepsIsTheProof();
        test.stepsOutside();
        test.stepsBeyondTheLeaves();
        test.proofInside();
        test.proofOutside();
        test.alterInside();
        test.alterOutside();
        test.lengthInside();
        test.lengthBringsNoughts();
        test.lengthOutside();
        test.check.end();
    }

    private void pathOfOne() {
        check.about("PATH: for n 1 none");
        for (int size : new int[] {1, 2, 600}) {
            LogTree x = Start.leavesAndProof(size, 40);
            check.due("path(0, 1) of " + size, 0, x.path(0, 1));
            check.due("path(0, 1) of " + size + ": PROOF", 0, x.count(1));
            check.dueThrow("path(0, 1) of " + size + ": proof(0)", BOUNDS, () -> x.proof(0));
        }
    }

    /** At the split: the last of the first k and the first of the others. */
    private void pathOnEitherSide() {
        check.about("PATH: m below k .. the HEAD of the others; else .. the HEAD of the first k");
        int[][] splits = {{2, 1}, {3, 2}, {4, 2}, {5, 4}, {8, 4}, {9, 8}, {511, 256}, {512, 256}, {513, 512},
            {599, 512}, {600, 512}};
        for (int[] pair : splits) {
            int n = pair[0];
            int k = pair[1];
            long first = Reference.head(Start.values(0, k));
            long others = Reference.head(Start.values(k, n));
            for (int m : new int[] {0, k - 1}) {
                pathEnds(m, n, others, Reference.path(m, Start.values(0, k)));
            }
            for (int m : new int[] {k, n - 1}) {
                pathEnds(m, n, first, Reference.path(m - k, Start.values(k, n)));
            }
        }
    }

    private void pathEnds(int m, int n, long last, List<Long> before) {
        String what = "path(" + m + ", " + n + ")";
        LogTree x = Start.leavesAndProof(600, 40);
        int length = x.path(m, n);
        check.due(what, before.size() + 1, length);
        check.due(what + ": the last number", last, x.proof(length - 1));
        check.due(what + ": the first number", before.isEmpty() ? last : before.get(0), x.proof(0));
    }

    private void pathIsTheProof() {
        check.about("7: PROOF is the PATH of m in the first n: how long.");
        int[][] places = {{0, 1}, {0, 2}, {1, 2}, {0, 600}, {511, 600}, {512, 600}, {599, 600}, {0, 512},
            {511, 512}, {512, 513}, {598, 599}};
        for (int[] pair : places) {
            for (int length : LENGTHS) {
                List<Long> due = Reference.path(pair[0], Start.values(0, pair[1]));
                LogTree x = Start.leavesAndProof(600, length);
                String what = "path(" + pair[0] + ", " + pair[1] + ") over " + length;
                check.due(what, due.size(), x.path(pair[0], pair[1]));
                check.dueText(what + ": state", State.of(given(600, due)), State.of(x));
            }
        }
    }

    private static LogTree given(int leaves, List<Long> proof) {
        LogTree x = Start.leaves(leaves);
        x.length(proof.size());
        for (int i = 0; i < proof.size(); i++) {
            x.alter(i, proof.get(i));
        }
        return x;
    }

    private void pathOutside() {
        check.about("7: NoSuchElementException: not 0 <= m < n, too.");
        for (int size : SIZES) {
            int[][] wrong = {{-1, 0}, {-1, 1}, {-1, size}, {LEAST, size}, {LEAST, LEAST}, {-1, -1}, {0, 0},
                {0, -1}, {0, LEAST}, {1, 1}, {size, size}, {size + 1, size}, {GREATEST, size}, {GREATEST, LEAST},
                {1, 0}, {-2, -1}};
            for (int[] pair : wrong) {
                pathRefused(pair[0], pair[1], size);
            }
        }
    }

    private void pathBeyondTheLeaves() {
        check.about("5: there are not so many .. (so for all): path");
        for (int size : SIZES) {
            int[][] wrong = {{0, size + 1}, {size, size + 1}, {size + 1, size + 1}, {0, GREATEST}, {0, 601},
                {600, 601}, {GREATEST - 1, GREATEST}, {GREATEST, GREATEST}, {-1, size + 1}, {LEAST, GREATEST}};
            for (int[] pair : wrong) {
                pathRefused(pair[0], pair[1], size);
            }
        }
        LogTree x = Start.leaves(8);
        x.cut(7);
        check.dueThrow("path(0, 8) of what went", NO_ELEMENT, () -> x.path(0, 8));
        check.due("path(6, 7) behind it", 2, x.path(6, 7));
    }

    private void pathRefused(int m, int n, int size) {
        for (int length : new int[] {0, 3, 40}) {
            check.refused("path(" + m + ", " + n + ") of " + size + " over " + length, NO_ELEMENT,
                    () -> Start.leavesAndProof(size, length), x -> x.path(m, n));
        }
    }

    private void stepsOfAll() {
        check.about("STEPS: m is n: none if known");
        for (int n : new int[] {1, 2, 3, 7, 8, 511, 512, 513, 599, 600}) {
            LogTree x = Start.leavesAndProof(600, 40);
            check.due("steps(" + n + ", " + n + ")", 0, x.steps(n, n));
            check.due("steps(" + n + ", " + n + "): PROOF", 0, x.count(1));
            check.dueThrow("steps(" + n + ", " + n + "): proof(0)", BOUNDS, () -> x.proof(0));
        }
    }

    private void stepsNotKnown() {
        check.about("STEPS: m is n: .. else their HEAD alone");
        int[][] rows = {{3, 4, 2, 3}, {6, 7, 4, 6}, {6, 8, 4, 6}, {7, 8, 6, 7}, {5, 8, 4, 5}, {513, 600, 512, 513},
            {576, 600, 512, 576}, {599, 600, 598, 599}, {511, 512, 510, 511}, {511, 600, 510, 511}};
        for (int[] row : rows) {
            LogTree x = Start.leaves(600);
            x.steps(row[0], row[1]);
            check.due("steps(" + row[0] + ", " + row[1] + "): number 0",
                    Reference.head(Start.values(row[2], row[3])), x.proof(0));
        }
    }

    /** At the split: m is k, and m is one more. */
    private void stepsOnEitherSide() {
        check.about("STEPS: m not above k: .. the HEAD of the others; m above k: .. the HEAD of the first k");
        int[][] splits = {{3, 2}, {4, 2}, {5, 4}, {8, 4}, {9, 8}, {511, 256}, {512, 256}, {513, 512}, {600, 512}};
        for (int[] pair : splits) {
            int n = pair[0];
            int k = pair[1];
            long first = Reference.head(Start.values(0, k));
            long others = Reference.head(Start.values(k, n));
            stepsEnd(1, n, others);
            stepsEnd(k, n, others);
            if (k + 1 < n) {
                stepsEnd(k + 1, n, first);
                stepsEnd(n - 1, n, first);
            }
            LogTree x = Start.leavesAndProof(600, 40);
            check.due("steps(" + k + ", " + n + ") alone", 1, x.steps(k, n));
        }
        check.about("STEPS: known as before");
        LogTree x = Start.leaves(600);
        check.due("steps(1, 600)", 10, x.steps(1, 600));
        check.due("steps(2, 600)", 9, x.steps(2, 600));
        check.due("steps(256, 600)", 2, x.steps(256, 600));
        check.due("steps(512, 600)", 1, x.steps(512, 600));
        check.about("STEPS: not known");
        check.due("steps(3, 600)", 11, x.steps(3, 600));
        check.due("steps(513, 600)", 9, x.steps(513, 600));
        check.due("steps(599, 600)", 7, x.steps(599, 600));
    }

    private void stepsEnd(int m, int n, long last) {
        LogTree x = Start.leavesAndProof(600, 40);
        int length = x.steps(m, n);
        check.due("steps(" + m + ", " + n + "): the last number", last, x.proof(length - 1));
    }

    private void stepsIsTheProof() {
        check.about("8: PROOF is the STEPS of m in the first n: how long.");
        int[][] places = {{1, 1}, {1, 2}, {2, 2}, {1, 600}, {511, 600}, {512, 600}, {513, 600}, {599, 600},
            {600, 600}, {1, 512}, {511, 512}, {512, 512}, {512, 513}, {598, 599}};
        for (int[] pair : places) {
            for (int length : LENGTHS) {
                List<Long> due = Reference.steps(pair[0], Start.values(0, pair[1]));
                LogTree x = Start.leavesAndProof(600, length);
                String what = "steps(" + pair[0] + ", " + pair[1] + ") over " + length;
                check.due(what, due.size(), x.steps(pair[0], pair[1]));
                check.dueText(what + ": state", State.of(given(600, due)), State.of(x));
            }
        }
    }

    private void stepsOutside() {
        check.about("8: NoSuchElementException: not 1 <= m <= n, too.");
        for (int size : SIZES) {
            int[][] wrong = {{0, 0}, {0, 1}, {0, size}, {-1, size}, {LEAST, size}, {LEAST, LEAST}, {-1, -1},
                {1, 0}, {1, -1}, {1, LEAST}, {2, 1}, {size + 1, size}, {GREATEST, size}, {GREATEST, LEAST},
                {-1, 0}};
            for (int[] pair : wrong) {
                stepsRefused(pair[0], pair[1], size);
            }
        }
    }

    private void stepsBeyondTheLeaves() {
        check.about("5: there are not so many .. (so for all): steps");
        for (int size : SIZES) {
            int[][] wrong = {{1, size + 1}, {size, size + 1}, {size + 1, size + 1}, {1, GREATEST}, {1, 601},
                {600, 601}, {601, 601}, {GREATEST, GREATEST}, {0, size + 1}, {LEAST, GREATEST}};
            for (int[] pair : wrong) {
                stepsRefused(pair[0], pair[1], size);
            }
        }
        LogTree x = Start.leaves(8);
        x.cut(7);
        check.dueThrow("steps(8, 8) of what went", NO_ELEMENT, () -> x.steps(8, 8));
        check.due("steps(7, 7) behind it", 0, x.steps(7, 7));
    }

    private void stepsRefused(int m, int n, int size) {
        for (int length : new int[] {0, 3, 40}) {
            check.refused("steps(" + m + ", " + n + ") of " + size + " over " + length, NO_ELEMENT,
                    () -> Start.leavesAndProof(size, length), x -> x.steps(m, n));
        }
    }

    private void proofInside() {
        check.about("9: Number i of PROOF.");
        for (int length : LENGTHS) {
            for (int i : new int[] {0, 1, length - 1}) {
                if (i >= 0 && i < length) {
                    check.onlyLooks("proof(" + i + ") of " + length, Start.number(i),
                            () -> Start.leavesAndProof(9, length), x -> x.proof(i));
                }
            }
        }
    }

    private void proofOutside() {
        check.about("9: IndexOutOfBoundsException: there is none");
        for (int length : LENGTHS) {
            for (int i : new int[] {LEAST, -length - 1, -1, length, length + 1, 40, 41, GREATEST}) {
                check.refused("proof(" + i + ") of " + length, BOUNDS,
                        () -> Start.leavesAndProof(600, length), x -> x.proof(i));
            }
        }
        LogTree x = Start.leavesAndProof(600, 40);
        x.path(599, 600);
        check.due("the last of a path over 40", Reference.head(Start.values(0, 512)), x.proof(5));
        check.dueThrow("behind the last of a path over 40", BOUNDS, () -> x.proof(6));
        x.steps(512, 600);
        check.dueThrow("behind the last of steps", BOUNDS, () -> x.proof(1));
        x.length(0);
        check.dueThrow("behind a length(0)", BOUNDS, () -> x.proof(0));
    }

    private void alterInside() {
        check.about("10: Number i of PROOF becomes v: what it was.");
        for (int length : LENGTHS) {
            for (int i : new int[] {0, 1, length - 1}) {
                if (i >= 0 && i < length) {
                    altered(i, length);
                }
            }
        }
        LogTree x = Start.leavesAndProof(600, 1);
        long head = x.head(600);
        for (long v : new long[] {Long.MIN_VALUE, Long.MAX_VALUE, -1, 0, 1}) {
            x.alter(0, v);
            check.due("alter(0, " + v + ") twice", v, x.alter(0, v));
            check.due("alter(0, " + v + "): proof(0)", v, x.proof(0));
        }
        check.due("alter changes no LEAF", head, x.head(600));
    }

    private void altered(int i, int length) {
        String what = "alter(" + i + ", 5) of " + length;
        LogTree x = Start.leavesAndProof(9, length);
        check.due(what, Start.number(i), x.alter(i, 5));
        for (int j = 0; j < length; j++) {
            check.due(what + ": number " + j, j == i ? 5 : Start.number(j), x.proof(j));
        }
        check.due(what + ": length", length, x.count(1));
        check.due(what + " back", 5, x.alter(i, Start.number(i)));
        check.dueText(what + " back: state", State.of(Start.leavesAndProof(9, length)), State.of(x));
    }

    private void alterOutside() {
        check.about("9: there is none (so for all): alter");
        for (int length : LENGTHS) {
            for (int i : new int[] {LEAST, -length - 1, -1, length, length + 1, 40, 41, GREATEST}) {
                check.refused("alter(" + i + ", 5) of " + length, BOUNDS,
                        () -> Start.leavesAndProof(600, length), x -> x.alter(i, 5));
            }
        }
    }

    private void lengthInside() {
        check.about("11: PROOF is as long as n .. how long it was.");
        for (int before : LENGTHS) {
            for (int n : LENGTHS) {
                String what = "length(" + n + ") of " + before;
                LogTree x = Start.leavesAndProof(9, before);
                check.due(what, before, x.length(n));
                check.due(what + ": count(1)", n, x.count(1));
                for (int i = 0; i < n; i++) {
                    check.due(what + ": number " + i, i < before ? Start.number(i) : 0, x.proof(i));
                }
                check.dueThrow(what + ": the next", BOUNDS, () -> x.proof(n));
                check.due(what + " again", n, x.length(n));
            }
        }
    }

    private void lengthBringsNoughts() {
        check.about("11: what comes is 0 (whatever was there before)");
        for (int less : new int[] {0, 1, 38, 39}) {
            LogTree x = Start.leavesAndProof(9, 40);
            x.length(less);
            x.length(40);
            for (int i = 0; i < 40; i++) {
                check.due("number " + i + " behind length(" + less + ")",
                        i < less ? Start.number(i) : 0, x.proof(i));
            }
        }
        LogTree x = Start.leavesAndProof(600, 40);
        x.path(599, 600);
        x.length(7);
        check.due("the first behind a path", 0, x.proof(6));
        x.path(0, 600);
        x.steps(512, 600);
        x.length(40);
        for (int i = 1; i < 40; i++) {
            check.due("number " + i + " behind steps", 0, x.proof(i));
        }
    }

    private void lengthOutside() {
        check.about("11: IllegalArgumentException: not 0 .. 40.");
        for (int before : LENGTHS) {
            for (int n : new int[] {LEAST, -40, -1, 41, 42, 600, GREATEST}) {
                check.refused("length(" + n + ") of " + before, ARGUMENT,
                        () -> Start.leavesAndProof(600, before), x -> x.length(n));
            }
        }
    }
}
