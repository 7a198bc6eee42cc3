import java.util.ArrayList;
import java.util.List;
import java.util.NoSuchElementException;

/** Each promise in turn: ordinary inputs, the edges that the document names, wrong inputs. */
public final class PromiseTest {
    private static final Class<IllegalStateException> STATE = IllegalStateException.class;
    private static final Class<IllegalArgumentException> ARGUMENT = IllegalArgumentException.class;
    private static final Class<NoSuchElementException> NO_ELEMENT = NoSuchElementException.class;
    private static final Class<IndexOutOfBoundsException> BOUNDS = IndexOutOfBoundsException.class;

    private static final int[] FAR = {Integer.MIN_VALUE, -2, -1, Integer.MAX_VALUE};
    private static final long[] FIVE = {-3, -2, 1, 6, 13};
    private static final long[] FIVE_HEADS = {
        0, -9139632158671793051L, -5330504088970708862L, 3491002313199110897L,
        -2976476853112364674L, -5074909523202920998L,
    };

    private final Check check = new Check();

    public static void main(String[] args) {
        PromiseTest test = new PromiseTest();
        test.newObject();
        test.add();
        test.fill();
        test.fillOrder();
        test.cut();
        test.head();
        test.part();
        test.path();
        test.steps();
        test.proof();
        test.proofStays();
        test.alter();
        test.length();
        test.shows();
        test.grew();
        test.grewOldHead();
        test.find();
        test.count();
        test.check.end();
    }

    private static LogTree five() {
        LogTree x = new LogTree();
        for (long v : FIVE) {
            x.add(v);
        }
        return x;
    }

    private static LogTree full() {
        LogTree x = new LogTree();
        for (int i = 0; i < 3; i++) {
            x.fill(200, 1000 * i, 1);
        }
        return x;
    }

    private static List<Long> row(int n, long v, long step) {
        List<Long> values = new ArrayList<>();
        for (int i = 0; i < n; i++) {
            values.add(v + step * i);
        }
        return values;
    }

    private static List<Long> proofOf(LogTree x) {
        List<Long> proof = new ArrayList<>();
        for (int i = 0; i < x.count(1); i++) {
            proof.add(x.proof(i));
        }
        return proof;
    }

    private static void setProof(LogTree x, long... numbers) {
        x.length(numbers.length);
        for (int i = 0; i < numbers.length; i++) {
            x.alter(i, numbers[i]);
        }
    }

    private void newObject() {
        LogTree x = new LogTree();
        check.due("new: LEAVES", 0, x.count(0));
        check.due("new: PROOF", 0, x.count(1));
        check.due("new: head(0)", 0, x.head(0));
        check.dueThrow("new: head(1)", NO_ELEMENT, () -> x.head(1));
        check.dueThrow("new: proof(0)", BOUNDS, () -> x.proof(0));
        x.add(7);
        x.length(3);
        LogTree other = new LogTree();
        check.due("another new: LEAVES", 0, other.count(0));
        check.due("another new: PROOF", 0, other.count(1));
    }

    private void add() {
        LogTree x = new LogTree();
        check.due("add first", 1, x.add(-3));
        check.due("add second", 2, x.add(-3));
        check.due("add least", 3, x.add(Long.MIN_VALUE));
        check.due("add at the end", Reference.head(List.of(-3L, -3L, Long.MIN_VALUE)), x.head(3));
        LogTree full = full();
        full.cut(599);
        check.due("add number 600", 600, full.add(5));
        long head = full.head(600);
        check.dueThrow("add number 601", STATE, () -> full.add(5));
        check.due("add that throws: LEAVES", 600, full.count(0));
        check.due("add that throws: head", head, full.head(600));
        full.cut(599);
        check.due("add after cut", 600, full.add(6));
    }

    private void fill() {
        LogTree x = new LogTree();
        check.due("fill 1", 1, x.fill(1, 9, 100));
        check.due("fill 3", 4, x.fill(3, 10, -4));
        check.due("fill: head", Reference.head(List.of(9L, 10L, 6L, 2L)), x.head(4));
        check.due("fill 200", 204, x.fill(200, 5, 0));
        check.due("fill 200: part", Reference.head(row(200, 5, 0)), x.part(4, 204));
        LogTree wide = new LogTree();
        wide.fill(200, Long.MAX_VALUE, Long.MAX_VALUE / 3);
        check.due("fill around", Reference.head(row(200, Long.MAX_VALUE, Long.MAX_VALUE / 3)), wide.head(200));
        for (int n : new int[] {0, 201, -1, Integer.MIN_VALUE, Integer.MAX_VALUE}) {
            check.dueThrow("fill " + n, ARGUMENT, () -> x.fill(n, 1, 1));
        }
        check.due("fill that throws: LEAVES", 204, x.count(0));
    }

    private void fillOrder() {
        LogTree x = full();
        check.due("three fills", 600, x.count(0));
        check.dueThrow("fill 1 of 600", STATE, () -> x.fill(1, 1, 1));
        check.dueThrow("fill 0 of 600", ARGUMENT, () -> x.fill(0, 1, 1));
        check.dueThrow("fill 201 of 600", ARGUMENT, () -> x.fill(201, 1, 1));
        x.cut(401);
        long head = x.head(401);
        check.dueThrow("fill 200 of 401", STATE, () -> x.fill(200, 1, 1));
        check.due("fill that is too much: LEAVES", 401, x.count(0));
        check.due("fill that is too much: head", head, x.head(401));
        check.due("fill 199 of 401", 600, x.fill(199, 1, 1));
    }

    private void cut() {
        LogTree x = five();
        check.due("cut to all", 0, x.cut(5));
        check.due("cut to 3", 2, x.cut(3));
        check.due("cut: LEAVES", 3, x.count(0));
        check.due("cut: head", FIVE_HEADS[3], x.head(3));
        check.dueThrow("cut: head beyond", NO_ELEMENT, () -> x.head(4));
        for (int n : new int[] {4, 5, -1, Integer.MIN_VALUE, Integer.MAX_VALUE}) {
            check.dueThrow("cut to " + n, ARGUMENT, () -> x.cut(n));
        }
        check.due("cut that throws: LEAVES", 3, x.count(0));
        x.add(FIVE[3]);
        check.due("cut, then add: head", FIVE_HEADS[4], x.head(4));
        check.due("cut to none", 4, x.cut(0));
        check.due("cut to none: head", 0, x.head(0));
        check.due("cut none of none", 0, x.cut(0));
    }

    private void head() {
        LogTree x = five();
        for (int n = 0; n <= 5; n++) {
            check.due("head " + n, FIVE_HEADS[n], x.head(n));
        }
        check.dueThrow("head 6", NO_ELEMENT, () -> x.head(6));
        for (int n : FAR) {
            check.dueThrow("head " + n, NO_ELEMENT, () -> x.head(n));
        }
        LogTree long600 = full();
        List<Long> values = row(200, 0, 1);
        values.addAll(row(200, 1000, 1));
        values.addAll(row(200, 2000, 1));
        for (int n : new int[] {1, 2, 127, 128, 129, 255, 256, 257, 511, 512, 513, 599, 600}) {
            check.due("head " + n + " of 600", Reference.head(values.subList(0, n)), long600.head(n));
        }
        check.dueThrow("head 601", NO_ELEMENT, () -> long600.head(601));
    }

    private void part() {
        List<Long> values = row(33, 7, 3);
        for (int from = 0; from <= 33; from++) {
            // A new object each time, as one is good for 512 calls.
            LogTree y = new LogTree();
            y.fill(33, 7, 3);
            for (int to = from; to <= 33; to++) {
                check.due("part " + from + " " + to, Reference.head(values.subList(from, to)), y.part(from, to));
            }
        }
        LogTree x = new LogTree();
        x.fill(33, 7, 3);
        check.due("part of none at the end", 0, x.part(33, 33));
        check.dueThrow("part 5 4", NO_ELEMENT, () -> x.part(5, 4));
        check.dueThrow("part 0 34", NO_ELEMENT, () -> x.part(0, 34));
        check.dueThrow("part 34 34", NO_ELEMENT, () -> x.part(34, 34));
        for (int far : FAR) {
            check.dueThrow("part 0 " + far, NO_ELEMENT, () -> x.part(0, far));
            check.dueThrow("part 33 " + far, NO_ELEMENT, () -> x.part(33, far));
            check.dueThrow("part " + far + " 5", NO_ELEMENT, () -> x.part(far, 5));
            check.dueThrow("part " + far + " twice", NO_ELEMENT, () -> x.part(far, far));
        }
    }

    private void path() {
        LogTree x = five();
        check.due("path 0 1", 0, x.path(0, 1));
        check.due("path 0 1: PROOF", 0, x.count(1));
        check.due("path 4 5", 1, x.path(4, 5));
        check.due("path 4 5: number 0", FIVE_HEADS[4], x.proof(0));
        check.due("path 2 5", 3, x.path(2, 5));
        check.due("path 2 5: number 0", Reference.leaf(6), x.proof(0));
        check.due("path 2 5: number 1", FIVE_HEADS[2], x.proof(1));
        check.due("path 2 5: number 2", Reference.leaf(13), x.proof(2));
        List<Long> before = proofOf(x);
        check.dueThrow("path 5 5", NO_ELEMENT, () -> x.path(5, 5));
        check.dueThrow("path 0 0", NO_ELEMENT, () -> x.path(0, 0));
        check.dueThrow("path 0 6", NO_ELEMENT, () -> x.path(0, 6));
        check.dueThrow("path 3 2", NO_ELEMENT, () -> x.path(3, 2));
        for (int far : FAR) {
            check.dueThrow("path 0 " + far, NO_ELEMENT, () -> x.path(0, far));
            check.dueThrow("path " + far + " 5", NO_ELEMENT, () -> x.path(far, 5));
            check.dueThrow("path " + far + " twice", NO_ELEMENT, () -> x.path(far, far));
        }
        check.dueText("path that throws: PROOF", before.toString(), proofOf(x).toString());
        check.due("path 511 of 600", 10, full().path(511, 600));
        check.due("path 599 of 600", 6, full().path(599, 600));
    }

    private void steps() {
        LogTree x = five();
        check.due("steps 5 5", 0, x.steps(5, 5));
        check.due("steps 4 5", 1, x.steps(4, 5));
        check.due("steps 4 5: number 0", Reference.leaf(13), x.proof(0));
        check.due("steps 3 5", 4, x.steps(3, 5));
        check.due("steps 3 5: number 0", Reference.leaf(1), x.proof(0));
        check.due("steps 3 5: number 1", Reference.leaf(6), x.proof(1));
        check.due("steps 3 5: number 2", FIVE_HEADS[2], x.proof(2));
        check.due("steps 3 5: number 3", Reference.leaf(13), x.proof(3));
        List<Long> before = proofOf(x);
        check.dueThrow("steps 0 5", NO_ELEMENT, () -> x.steps(0, 5));
        check.dueThrow("steps 0 0", NO_ELEMENT, () -> x.steps(0, 0));
        check.dueThrow("steps 6 6", NO_ELEMENT, () -> x.steps(6, 6));
        check.dueThrow("steps 1 6", NO_ELEMENT, () -> x.steps(1, 6));
        check.dueThrow("steps 3 2", NO_ELEMENT, () -> x.steps(3, 2));
        for (int far : FAR) {
            check.dueThrow("steps 1 " + far, NO_ELEMENT, () -> x.steps(1, far));
            check.dueThrow("steps " + far + " 5", NO_ELEMENT, () -> x.steps(far, 5));
            check.dueThrow("steps " + far + " twice", NO_ELEMENT, () -> x.steps(far, far));
        }
        check.dueText("steps that throw: PROOF", before.toString(), proofOf(x).toString());
        check.due("steps 511 of 600", 11, full().steps(511, 600));
        check.due("steps 512 of 600", 1, full().steps(512, 600));
    }

    private void proof() {
        LogTree x = five();
        x.path(0, 5);
        check.due("proof 0", Reference.leaf(-2), x.proof(0));
        check.due("proof 0 again", Reference.leaf(-2), x.proof(0));
        check.due("proof 2", Reference.leaf(13), x.proof(2));
        check.dueThrow("proof 3", BOUNDS, () -> x.proof(3));
        for (int far : FAR) {
            check.dueThrow("proof " + far, BOUNDS, () -> x.proof(far));
        }
        x.length(40);
        check.due("proof 39", 0, x.proof(39));
        check.dueThrow("proof 40", BOUNDS, () -> x.proof(40));
        x.path(4, 5);
        check.dueThrow("proof behind a shorter one", BOUNDS, () -> x.proof(1));
    }

    private void proofStays() {
        LogTree x = five();
        x.path(0, 5);
        String before = proofOf(x).toString();
        x.add(8);
        x.fill(20, 0, 1);
        check.dueText("PROOF when LEAVES come", before, proofOf(x).toString());
        x.cut(0);
        check.dueText("PROOF when LEAVES go", before, proofOf(x).toString());
        x.fill(9, 0, 1);
        x.head(9);
        x.part(2, 7);
        x.find(9, 3);
        x.shows(1, 9, 2, 3);
        x.grew(1, 9, 2, 3);
        check.dueText("PROOF after calls that only look", before, proofOf(x).toString());
    }

    private void alter() {
        LogTree x = five();
        x.path(0, 5);
        check.due("alter 0", Reference.leaf(-2), x.alter(0, 77));
        check.due("alter 0 again", 77, x.alter(0, Long.MIN_VALUE));
        check.due("alter: number 0", Long.MIN_VALUE, x.proof(0));
        check.due("alter: number 2", Reference.leaf(13), x.proof(2));
        check.due("alter 2", Reference.leaf(13), x.alter(2, 5));
        String before = proofOf(x).toString();
        check.dueThrow("alter 3", BOUNDS, () -> x.alter(3, 9));
        for (int far : FAR) {
            check.dueThrow("alter " + far, BOUNDS, () -> x.alter(far, 9));
        }
        check.dueText("alter that throws: PROOF", before, proofOf(x).toString());
        check.due("alter: head stays", FIVE_HEADS[5], x.head(5));
        check.dueThrow("alter of no PROOF", BOUNDS, () -> new LogTree().alter(0, 9));
    }

    private void length() {
        LogTree x = new LogTree();
        check.due("length 3", 0, x.length(3));
        setProof(x, 11, 12, 13);
        check.due("length 1", 3, x.length(1));
        check.due("length 40", 1, x.length(40));
        check.due("length: number 0", 11, x.proof(0));
        for (int i = 1; i < 40; i++) {
            check.due("length: number " + i, 0, x.proof(i));
        }
        for (int n : new int[] {41, -1, Integer.MIN_VALUE, Integer.MAX_VALUE}) {
            check.dueThrow("length " + n, ARGUMENT, () -> x.length(n));
        }
        check.due("length that throws", 40, x.count(1));
        check.due("length 40 again", 40, x.length(40));
        check.due("length 0", 40, x.length(0));
        check.due("length 0: PROOF", 0, x.count(1));
        LogTree y = five();
        y.path(0, 5);
        y.path(4, 5);
        y.length(3);
        check.due("length behind a shorter path", 0, y.proof(2));
    }

    private void shows() {
        LogTree x = five();
        for (int n = 1; n <= 5; n++) {
            for (int m = 0; m < n; m++) {
                x.path(m, n);
                showsOnly(x, m, n);
            }
        }
        LogTree empty = new LogTree();
        check.due("shows one without LEAVES", true, empty.shows(0, 1, 4, Reference.leaf(4)));
        check.due("shows 1 1", false, empty.shows(1, 1, 4, Reference.leaf(4)));
        check.due("shows 0 0", false, empty.shows(0, 0, 4, 0));
        check.due("shows -1 0", false, empty.shows(-1, 0, 4, Reference.leaf(4)));
        check.due("shows -1 1", false, empty.shows(-1, 1, 4, Reference.leaf(4)));
        check.due("shows 0 -1", false, empty.shows(0, -1, 4, Reference.leaf(4)));
        for (int m : FAR) {
            for (int n : FAR) {
                check.due("shows " + m + " " + n, false, empty.shows(m, n, 4, Reference.leaf(4)));
            }
        }
    }

    private void showsOnly(LogTree x, int m, int n) {
        String what = "shows " + m + " " + n;
        long head = FIVE_HEADS[n];
        check.due(what, true, x.shows(m, n, FIVE[m], head));
        check.due(what + " other value", false, x.shows(m, n, FIVE[m] + 1, head));
        check.due(what + " other head", false, x.shows(m, n, FIVE[m], head + 1));
        int length = x.count(1);
        for (int i = 0; i < length; i++) {
            long before = x.alter(i, 5);
            check.due(what + " altered " + i, false, x.shows(m, n, FIVE[m], head));
            x.alter(i, before);
        }
        x.length(length + 1);
        check.due(what + " too long", false, x.shows(m, n, FIVE[m], head));
        if (length > 0) {
            x.length(length - 1);
            check.due(what + " too short", false, x.shows(m, n, FIVE[m], head));
        }
    }

    private void grew() {
        LogTree x = five();
        for (int n = 1; n <= 5; n++) {
            for (int m = 1; m <= n; m++) {
                x.steps(m, n);
                grewOnly(x, m, n);
            }
        }
        LogTree empty = new LogTree();
        check.due("grew 7 7 without LEAVES", true, empty.grew(7, 7, 5, 5));
        check.due("grew 7 7, two heads", false, empty.grew(7, 7, 5, 6));
        check.due("grew 0 0", false, empty.grew(0, 0, 0, 0));
        check.due("grew 0 1", false, empty.grew(0, 1, 5, 5));
        check.due("grew 2 1", false, empty.grew(2, 1, 5, 5));
        for (int far : FAR) {
            check.due("grew " + far + " twice", false, empty.grew(far, far, 5, 5));
            check.due("grew 1 " + far, false, empty.grew(1, far, 5, 5));
            check.due("grew " + far + " 1", false, empty.grew(far, 1, 5, 5));
        }
    }

    private void grewOnly(LogTree x, int m, int n) {
        String what = "grew " + m + " " + n;
        long before = FIVE_HEADS[m];
        long head = FIVE_HEADS[n];
        check.due(what, true, x.grew(m, n, before, head));
        check.due(what + " other old head", false, x.grew(m, n, before + 1, head));
        check.due(what + " other new head", false, x.grew(m, n, before, head + 1));
        int length = x.count(1);
        for (int i = 0; i < length; i++) {
            long number = x.alter(i, 5);
            check.due(what + " altered " + i, false, x.grew(m, n, before, head));
            x.alter(i, number);
        }
        x.length(length + 1);
        check.due(what + " too long", false, x.grew(m, n, before, head));
        if (length > 0) {
            x.length(length - 1);
            check.due(what + " too short", false, x.grew(m, n, before, head));
        }
    }

    /** A PROOF that makes one of the two heads and not the other is no proof. */
    private void grewOldHead() {
        LogTree x = new LogTree();
        setProof(x, 101, 102, 103);
        long before = Reference.node(103, 101);
        long head = Reference.node(103, Reference.node(101, 102));
        check.due("grew 3 4, numbers of one's own", true, x.grew(3, 4, before, head));
        check.due("grew 3 4, old head wrong", false, x.grew(3, 4, 9, head));
        check.due("grew 3 4, new head wrong", false, x.grew(3, 4, before, 9));
        setProof(x, 102, 103);
        long known = Reference.node(Reference.node(9, 102), 103);
        check.due("grew 2 8, known", true, x.grew(2, 8, 9, known));
        check.due("grew 2 8, another known", false, x.grew(2, 8, 8, known));
        check.due("grew 1 3, known", true, x.grew(1, 3, 9, known));
    }

    private void find() {
        LogTree x = new LogTree();
        for (long v : new long[] {4, 7, 4, Long.MIN_VALUE, 7, 0}) {
            x.add(v);
        }
        check.due("find 4", 0, x.find(6, 4));
        check.due("find 7", 1, x.find(6, 7));
        check.due("find 7 in 2", 1, x.find(2, 7));
        check.due("find 7 in 1", -1, x.find(1, 7));
        check.due("find least", 3, x.find(6, Long.MIN_VALUE));
        check.due("find 0", 5, x.find(6, 0));
        check.due("find 0 in 5", -1, x.find(5, 0));
        check.due("find 5", -1, x.find(6, 5));
        check.due("find in none", -1, x.find(0, 4));
        check.dueThrow("find in 7", NO_ELEMENT, () -> x.find(7, 4));
        for (int far : FAR) {
            check.dueThrow("find in " + far, NO_ELEMENT, () -> x.find(far, 4));
        }
        x.cut(2);
        check.dueThrow("find in what went", NO_ELEMENT, () -> x.find(3, 4));
        x.add(1);
        check.due("find what went", -1, x.find(3, Long.MIN_VALUE));
    }

    private void count() {
        LogTree x = new LogTree();
        check.due("count 2 of none", 0, x.count(2));
        for (int n = 1; n <= 40; n++) {
            x.add(n);
            check.due("count 0", n, x.count(0));
            check.due("count 2 of " + n, Integer.toBinaryString(n).replace("0", "").length(), x.count(2));
        }
        check.due("count 2 of 600", 4, full().count(2));
        x.path(0, 5);
        check.due("count 1", 3, x.count(1));
        x.length(40);
        check.due("count 1 of 40", 40, x.count(1));
        check.due("count 3", -1, x.count(3));
        for (int far : FAR) {
            check.due("count " + far, -1, x.count(far));
        }
    }
}
