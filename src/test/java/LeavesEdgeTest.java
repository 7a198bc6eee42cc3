import java.util.List;
import java.util.NoSuchElementException;

/** Promises 1 to 6, 14 and 15: each sentence that names a boundary, in a method of its own. */
public final class LeavesEdgeTest {
    private static final Class<IllegalStateException> STATE = IllegalStateException.class;
    private static final Class<IllegalArgumentException> ARGUMENT = IllegalArgumentException.class;
    private static final Class<NoSuchElementException> NO_ELEMENT = NoSuchElementException.class;
    private static final Class<IndexOutOfBoundsException> BOUNDS = IndexOutOfBoundsException.class;

    private static final int LEAST = Integer.MIN_VALUE;
    private static final int GREATEST = Integer.MAX_VALUE;
    private static final int[] SIZES = {0, 1, 2, 7, 511, 512, 513, 599, 600};

    private final Check check = new Check();

    public static void main(String[] args) {
        LeavesEdgeTest test = new LeavesEdgeTest();
        test.newHasNoLeaves();
        test.newHasNoProof();
        test.addCounts();
        test.addExtremes();
        test.addToFull();
        test.fillCounts();
        test.fillWrapsAround();
        test.fillOfWrongSize();
        test.fillBeyondFull();
        test.fillNamesTheArgumentFirst();
        test.cutKeepsTheFirst();
        test.cutOutside();
        test.headOfNoneAndOfAll();
        test.headOutside();
        test.partOfNone();
        test.partOfOneAndOfAll();
        test.partOutside();
        test.findTheLeast();
        test.findBelowN();
        test.findNone();
        test.findExtremes();
        test.findWholeLeaves();
        test.findOutside();
        test.countLeaves();
        test.countProof();
        test.countPowers();
        test.countElse();
        test.check.end();
    }

    private void newHasNoLeaves() {
        check.about("1: No LEAVES");
        check.onlyLooks("count(0)", 0, LogTree::new, x -> x.count(0));
        check.onlyLooks("count(2)", 0, LogTree::new, x -> x.count(2));
        check.onlyLooks("head(0)", 0, LogTree::new, x -> x.head(0));
        check.onlyLooks("part(0, 0)", 0, LogTree::new, x -> x.part(0, 0));
        check.onlyLooks("find(0, 0)", -1, LogTree::new, x -> x.find(0, 0));
        check.onlyLooks("find(0, 1), whose LEAF is 0", -1, LogTree::new, x -> x.find(0, 1));
        check.onlyLooks("cut(0)", 0, LogTree::new, x -> x.cut(0));
        check.refused("cut(1)", ARGUMENT, LogTree::new, x -> x.cut(1));
        check.refused("head(1)", NO_ELEMENT, LogTree::new, x -> x.head(1));
        check.refused("part(0, 1)", NO_ELEMENT, LogTree::new, x -> x.part(0, 1));
        check.refused("part(1, 1)", NO_ELEMENT, LogTree::new, x -> x.part(1, 1));
        check.refused("path(0, 0)", NO_ELEMENT, LogTree::new, x -> x.path(0, 0));
        check.refused("path(0, 1)", NO_ELEMENT, LogTree::new, x -> x.path(0, 1));
        check.refused("steps(0, 0)", NO_ELEMENT, LogTree::new, x -> x.steps(0, 0));
        check.refused("steps(1, 1)", NO_ELEMENT, LogTree::new, x -> x.steps(1, 1));
        check.refused("find(1, 1)", NO_ELEMENT, LogTree::new, x -> x.find(1, 1));
    }

    private void newHasNoProof() {
        check.about("1: no PROOF");
        check.onlyLooks("count(1)", 0, LogTree::new, x -> x.count(1));
        check.onlyLooks("length(0)", 0, LogTree::new, x -> x.length(0));
        check.refused("proof(0)", BOUNDS, LogTree::new, x -> x.proof(0));
        check.refused("alter(0, 5)", BOUNDS, LogTree::new, x -> x.alter(0, 5));
        LogTree used = Start.leavesAndProof(600, 40);
        LogTree x = new LogTree();
        check.due("LEAVES beside an object that is full", 0, x.count(0));
        check.due("PROOF beside an object that is full", 0, x.count(1));
        check.due("LEAVES of the other", 600, used.count(0));
        check.due("PROOF of the other", 40, used.count(1));
    }

    private void addCounts() {
        check.about("2: v is the last LEAF: how many there are.");
        LogTree x = new LogTree();
        for (int i = 0; i < 250; i++) {
            check.due("add number " + (i + 1), i + 1, x.add(Start.value(i)));
            check.due("the last", Reference.leaf(Start.value(i)), x.part(i, i + 1));
        }
        check.due("head of them all", Reference.head(Start.values(0, 250)), x.head(250));
        for (int size : SIZES) {
            if (size < 600) {
                LogTree y = Start.leaves(size);
                check.due("add to " + size, size + 1, y.add(-9));
                check.due("the last of " + (size + 1), Reference.leaf(-9), y.part(size, size + 1));
                check.due("the others of " + (size + 1), Reference.head(Start.values(0, size)), y.head(size));
            }
        }
    }

    private void addExtremes() {
        check.about("2: v is the last LEAF");
        for (long v : new long[] {Long.MIN_VALUE, Long.MAX_VALUE, -1, 0, 1, 2}) {
            LogTree x = new LogTree();
            check.due("add " + v, 1, x.add(v));
            check.due("add " + v + ": head", Reference.leaf(v), x.head(1));
            check.due("add " + v + " twice", 2, x.add(v));
            check.due("add " + v + " twice: head", Reference.head(List.of(v, v)), x.head(2));
        }
    }

    private void addToFull() {
        check.about("2: IllegalStateException: there are 600.");
        check.due("add number 599", 599, Start.leaves(598).add(5));
        check.due("add number 600", 600, Start.leaves(599).add(5));
        check.refused("add number 601", STATE, () -> Start.leaves(600), x -> x.add(5));
        check.refused("add number 601 beside a PROOF", STATE, () -> Start.leavesAndProof(600, 40), x -> x.add(5));
        LogTree x = Start.leaves(600);
        check.dueThrow("add to 600", STATE, () -> x.add(5));
        x.cut(599);
        check.due("add after a cut to 599", 600, x.add(6));
        check.due("the last after a cut", Reference.leaf(6), x.part(599, 600));
        check.dueThrow("add to 600 after a cut", STATE, () -> x.add(5));
    }

    private void fillCounts() {
        check.about("3: n LEAVES more, of v, v + step, v + 2 step, ..: how many there are.");
        for (int n : new int[] {1, 2, 199, 200}) {
            for (int size : new int[] {0, 1, 400 - n, 600 - n}) {
                for (long step : new long[] {0, 1, -1, 7}) {
                    filled(n, size, 100, step);
                }
            }
        }
    }

    private void fillWrapsAround() {
        check.about("3: v, v + step, v + 2 step, .. as longs that wrap around");
        filled(2, 0, Long.MAX_VALUE, 1);
        filled(2, 0, Long.MIN_VALUE, -1);
        filled(3, 0, 0, Long.MIN_VALUE);
        filled(3, 3, -1, Long.MAX_VALUE);
        filled(200, 0, Long.MAX_VALUE - 100, 1);
        filled(200, 400, Long.MIN_VALUE + 100, -1);
        filled(200, 0, Long.MIN_VALUE, Long.MIN_VALUE);
        filled(200, 0, Long.MAX_VALUE, Long.MAX_VALUE);
        filled(200, 0, 5, 1L << 56);
        filled(200, 0, 5, (1L << 32) + 1);
        LogTree x = new LogTree();
        x.fill(2, Long.MAX_VALUE, 1);
        check.due("the least behind the greatest", 1, x.find(2, Long.MIN_VALUE));
        LogTree y = new LogTree();
        y.fill(3, 4, Long.MIN_VALUE);
        check.due("twice the least is nothing", Reference.leaf(4), y.part(2, 3));
    }

    /** The values are added one by one here, as the document tells them. */
    private void filled(int n, int size, long v, long step) {
        String what = "fill(" + n + ", " + v + ", " + step + ") of " + size;
        LogTree x = Start.leaves(size);
        check.due(what, size + n, x.fill(n, v, step));
        check.due(what + ": LEAVES", size + n, x.count(0));
        List<Long> row = Start.values(0, size);
        long next = v;
        for (int i = 0; i < n; i++) {
            row.add(next);
            check.due(what + ": number " + i, Reference.leaf(next), x.part(size + i, size + i + 1));
            next += step;
        }
        check.due(what + ": head", Reference.head(row), x.head(size + n));
    }

    private void fillOfWrongSize() {
        check.about("3: IllegalArgumentException: n is not 1 .. 200.");
        check.due("fill(1)", 1, new LogTree().fill(1, 5, 5));
        check.due("fill(200)", 200, new LogTree().fill(200, 5, 5));
        for (int n : new int[] {0, -1, -200, LEAST, 201, 202, 600, GREATEST - 600, GREATEST}) {
            check.refused("fill(" + n + ")", ARGUMENT, LogTree::new, x -> x.fill(n, 5, 5));
            check.refused("fill(" + n + ") of 7", ARGUMENT,
                    () -> Start.leavesAndProof(7, 3), x -> x.fill(n, 5, 5));
        }
    }

    private void fillBeyondFull() {
        check.about("3: IllegalStateException: there would be more than 600.");
        int[][] right = {{600 - 1, 1}, {600 - 2, 2}, {600 - 199, 199}, {600 - 200, 200}};
        for (int[] pair : right) {
            int size = pair[0];
            int n = pair[1];
            check.due("fill(" + n + ") of " + size, 600, Start.leaves(size).fill(n, 5, 5));
            check.refused("fill(" + n + ") of " + (size + 1), STATE,
                    () -> Start.leavesAndProof(size + 1, 40), x -> x.fill(n, 5, 5));
        }
        check.refused("fill(2) of 599", STATE, () -> Start.leaves(599), x -> x.fill(2, 5, 5));
        check.refused("fill(200) of 599", STATE, () -> Start.leaves(599), x -> x.fill(200, 5, 5));
        check.refused("fill(200) of 600", STATE, () -> Start.leaves(600), x -> x.fill(200, 5, 5));
        LogTree x = Start.leaves(500);
        check.dueThrow("fill(101) of 500", STATE, () -> x.fill(101, 5, 5));
        check.due("fill(100) of 500 behind it", 600, x.fill(100, 6, 0));
        check.due("fill(100): the first", Reference.leaf(6), x.part(500, 501));
        check.due("fill(100): the last", Reference.leaf(6), x.part(599, 600));
    }

    private void fillNamesTheArgumentFirst() {
        check.about("Of several exceptions the one that a call names first is thrown; then nothing changes.");
        for (int size : new int[] {400, 401, 599, 600}) {
            for (int n : new int[] {201, 601, GREATEST - 599, GREATEST}) {
                check.refused("fill(" + n + ") of " + size, ARGUMENT,
                        () -> Start.leavesAndProof(size, 2), x -> x.fill(n, 5, 5));
            }
            for (int n : new int[] {0, -1, LEAST}) {
                check.refused("fill(" + n + ") of " + size, ARGUMENT,
                        () -> Start.leavesAndProof(size, 2), x -> x.fill(n, 5, 5));
            }
        }
    }

    private void cutKeepsTheFirst() {
        check.about("4: Only the first n LEAVES stay: how many went.");
        for (int size : SIZES) {
            for (int n : new int[] {0, 1, size / 2, size - 1, size}) {
                if (n >= 0 && n <= size) {
                    cutTo(n, size);
                }
            }
        }
        LogTree x = Start.leaves(5);
        check.due("cut(0)", 5, x.cut(0));
        check.due("cut(0) of none", 0, x.cut(0));
        check.due("add behind a cut(0)", 1, x.add(3));
        check.due("head behind a cut(0)", Reference.leaf(3), x.head(1));
    }

    private void cutTo(int n, int size) {
        String what = "cut(" + n + ") of " + size;
        LogTree x = Start.leavesAndProof(size, 3);
        check.due(what, size - n, x.cut(n));
        check.due(what + ": LEAVES", n, x.count(0));
        check.due(what + ": head", Reference.head(Start.values(0, n)), x.head(n));
        check.dueThrow(what + ": head beyond", NO_ELEMENT, () -> x.head(n + 1));
        check.dueText(what + ": as if no more had come", State.of(Start.leavesAndProof(n, 3)), State.of(x));
    }

    private void cutOutside() {
        check.about("4: IllegalArgumentException: n is not 0 .. their number.");
        for (int size : SIZES) {
            check.due("cut(0) of " + size, size, Start.leaves(size).cut(0));
            check.due("cut(" + size + ") of " + size, 0, Start.leaves(size).cut(size));
            for (int n : new int[] {LEAST, -size - 1, -1, size + 1, size + 2, 601, GREATEST}) {
                check.refused("cut(" + n + ") of " + size, ARGUMENT,
                        () -> Start.leavesAndProof(size, 3), x -> x.cut(n));
            }
        }
    }

    private void headOfNoneAndOfAll() {
        check.about("5: HEAD of the first n LEAVES.");
        for (int size : SIZES) {
            check.onlyLooks("head(0) of " + size, 0, () -> Start.leavesAndProof(size, 3), x -> x.head(0));
            for (int n : SIZES) {
                if (n <= size) {
                    check.onlyLooks("head(" + n + ") of " + size, Reference.head(Start.values(0, n)),
                            () -> Start.leavesAndProof(size, 3), x -> x.head(n));
                }
            }
        }
    }

    private void headOutside() {
        check.about("5: NoSuchElementException: there are not so many, or n is below 0");
        for (int size : SIZES) {
            for (int n : new int[] {LEAST, -size - 1, -1, size + 1, size + 2, 601, GREATEST}) {
                check.refused("head(" + n + ") of " + size, NO_ELEMENT,
                        () -> Start.leavesAndProof(size, 3), x -> x.head(n));
            }
        }
        LogTree x = Start.leaves(8);
        x.cut(7);
        check.dueThrow("head(8) of what went", NO_ELEMENT, () -> x.head(8));
    }

    private void partOfNone() {
        check.about("6: (0 if both are the same)");
        for (int size : SIZES) {
            for (int from : new int[] {0, 1, size / 2, size - 1, size}) {
                if (from >= 0 && from <= size) {
                    check.onlyLooks("part(" + from + ", " + from + ") of " + size, 0,
                            () -> Start.leavesAndProof(size, 3), x -> x.part(from, from));
                }
            }
        }
    }

    private void partOfOneAndOfAll() {
        check.about("6: HEAD of the LEAVES from one on to before another");
        int[][] parts = {{0, 1}, {599, 600}, {0, 600}, {0, 599}, {1, 600}, {1, 599}, {1, 2}, {88, 600},
            {87, 600}, {89, 600}, {511, 513}, {255, 512}, {256, 512}, {257, 512}, {598, 600}};
        for (int[] pair : parts) {
            check.onlyLooks("part(" + pair[0] + ", " + pair[1] + ")",
                    Reference.head(Start.values(pair[0], pair[1])),
                    () -> Start.leavesAndProof(600, 3), x -> x.part(pair[0], pair[1]));
        }
        check.onlyLooks("part(0, 1) of 1", Reference.leaf(Start.value(0)),
                () -> Start.leaves(1), x -> x.part(0, 1));
    }

    private void partOutside() {
        check.about("6: NoSuchElementException: not 0 <= from <= to, too.");
        for (int size : SIZES) {
            int[][] wrong = {{-1, 0}, {-1, size}, {-1, -1}, {LEAST, size}, {LEAST, LEAST}, {1, 0}, {size, -1},
                {size, size - 1}, {size + 1, size}, {0, -1}, {0, LEAST}, {GREATEST, 0}, {GREATEST, LEAST},
                {GREATEST, size}, {-2, -1}};
            for (int[] pair : wrong) {
                partRefused(pair[0], pair[1], size);
            }
        }
        check.about("5: there are not so many .. (so for all)");
        for (int size : SIZES) {
            int[][] wrong = {{0, size + 1}, {size, size + 1}, {size + 1, size + 1}, {0, GREATEST},
                {GREATEST, GREATEST}, {LEAST, GREATEST}, {601, 601}, {600, 601}};
            for (int[] pair : wrong) {
                partRefused(pair[0], pair[1], size);
            }
        }
    }

    private void partRefused(int from, int to, int size) {
        check.refused("part(" + from + ", " + to + ") of " + size, NO_ELEMENT,
                () -> Start.leavesAndProof(size, 3), x -> x.part(from, to));
    }

    private static LogTree of(long... values) {
        LogTree x = new LogTree();
        for (long v : values) {
            x.add(v);
        }
        return x;
    }

    private void findTheLeast() {
        check.about("14: The least m ..");
        check.onlyLooks("all the same", 0, () -> of(4, 4, 4), x -> x.find(3, 4));
        check.onlyLooks("two at the end", 1, () -> of(3, 4, 4), x -> x.find(3, 4));
        check.onlyLooks("first and last", 0, () -> of(4, 3, 4), x -> x.find(3, 4));
        LogTree x = Start.leaves(400);
        x.fill(200, 3, 0);
        check.due("the first of 200", 400, x.find(600, 3));
        check.due("the first of all", 0, x.find(600, Start.value(0)));
        check.due("the last of those before", 399, x.find(600, Start.value(399)));
    }

    private void findBelowN() {
        check.about("14: .. below the first n LEAVES whose LEAF is v's");
        for (int at : new int[] {0, 1, 6, 511, 512, 598, 599}) {
            long v = Start.value(at);
            check.onlyLooks("the last of " + (at + 1), at,
                    () -> Start.leavesAndProof(600, 3), x -> x.find(at + 1, v));
            check.onlyLooks("the next behind " + at, -1,
                    () -> Start.leavesAndProof(600, 3), x -> x.find(at, v));
        }
    }

    private void findNone() {
        check.about("14: -1: none.");
        check.onlyLooks("in none of none", -1, LogTree::new, x -> x.find(0, 4));
        check.onlyLooks("in none of some", -1, () -> of(4), x -> x.find(0, 4));
        check.onlyLooks("in all of 600", -1, () -> Start.leaves(600), x -> x.find(600, 4));
        LogTree x = of(4, 5, 6);
        x.cut(1);
        check.due("what went", -1, x.find(1, 5));
        x.add(7);
        check.due("what went and was written over", -1, x.find(2, 5));
        check.due("what came instead", 1, x.find(2, 7));
    }

    private void findExtremes() {
        check.about("14: whose LEAF is v's");
        long[] values = {0, 1, -1, Long.MIN_VALUE, Long.MAX_VALUE, 2, 1L << 32, 1L << 63 >> 31};
        for (int i = 0; i < values.length; i++) {
            LogTree x = of(values);
            check.due("find " + values[i], i, x.find(values.length, values[i]));
        }
        check.due("LEAF of 1 is 0, 0's is not", -1, of(1).find(1, 0));
        check.due("the LEAF of 4 instead of 4", -1, of(4).find(1, Reference.leaf(4)));
    }

    /** Values whose LEAVES differ in one bit alone: no part of a LEAF may be left out. */
    private void findWholeLeaves() {
        check.about("14: whose LEAF is v's");
        for (int bit = 0; bit < 64; bit++) {
            long near = Reference.valueOfLeaf(Reference.leaf(4) ^ 1L << bit);
            check.due("LEAF near 4's", Reference.leaf(4) ^ 1L << bit, Reference.leaf(near));
            LogTree x = of(near, 4);
            check.due("find 4 behind bit " + bit, 1, x.find(2, 4));
            check.due("find bit " + bit, 0, x.find(2, near));
            check.due("find 4 in bit " + bit + " alone", -1, x.find(1, 4));
        }
    }

    private void findOutside() {
        check.about("5: there are not so many, or n is below 0 (so for all): find");
        for (int size : SIZES) {
            for (int n : new int[] {LEAST, -size - 1, -1, size + 1, size + 2, 601, GREATEST}) {
                for (long v : new long[] {Start.value(0), 4}) {
                    check.refused("find(" + n + ", " + v + ") of " + size, NO_ELEMENT,
                            () -> Start.leavesAndProof(size, 3), x -> x.find(n, v));
                }
            }
        }
    }

    private void countLeaves() {
        check.about("15: 0 LEAVES");
        for (int size : SIZES) {
            check.onlyLooks("count(0) of " + size, size, () -> Start.leavesAndProof(size, 3), x -> x.count(0));
        }
        LogTree x = Start.leaves(600);
        x.cut(0);
        check.due("count(0) after a cut(0)", 0, x.count(0));
    }

    private void countProof() {
        check.about("15: 1 PROOF's length");
        for (int length : new int[] {0, 1, 39, 40}) {
            check.onlyLooks("count(1) of " + length, length,
                    () -> Start.leavesAndProof(9, length), x -> x.count(1));
        }
        LogTree x = Start.leaves(600);
        x.path(0, 600);
        check.due("count(1) of a path", 10, x.count(1));
        x.steps(511, 600);
        check.due("count(1) of steps", 11, x.count(1));
        x.steps(600, 600);
        check.due("count(1) of no steps", 0, x.count(1));
    }

    private void countPowers() {
        check.about("15: 2 how many powers of two the number of LEAVES is the sum of");
        int[][] due = {{0, 0}, {1, 1}, {2, 1}, {3, 2}, {4, 1}, {7, 3}, {8, 1}, {255, 8}, {256, 1}, {257, 2},
            {511, 9}, {512, 1}, {513, 2}, {575, 7}, {599, 6}, {600, 4}};
        for (int[] pair : due) {
            check.onlyLooks("count(2) of " + pair[0], pair[1],
                    () -> Start.leavesAndProof(pair[0], 3), x -> x.count(2));
        }
    }

    private void countElse() {
        check.about("15: Else -1.");
        for (int what : new int[] {LEAST, -2, -1, 3, 4, GREATEST, 1 << 8, 1 << 16, 1 << 30}) {
            check.onlyLooks("count(" + what + ") of a new one", -1, LogTree::new, x -> x.count(what));
            check.onlyLooks("count(" + what + ")", -1, () -> Start.leavesAndProof(600, 40), x -> x.count(what));
        }
    }
}
