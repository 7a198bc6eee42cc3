import java.util.NoSuchElementException;

/** 'Terms' and the bound on calls: each sentence that names a boundary, in a method of its own. */
public final class TermsEdgeTest {
    private static final int MOST_CALLS = 512;

    private final Check check = new Check();

    public static void main(String[] args) {
        TermsEdgeTest test = new TermsEdgeTest();
        test.leafWrapsAround();
        test.nodeWrapsAround();
        test.headOfFew();
        test.headSplits();
        test.leavesFromNought();
        test.leavesAtMost();
        test.proofAtMost();
        test.proofStaysWhenLeavesCome();
        test.proofStaysWhenLeavesGo();
        test.throwsAndChangesNothing();
        test.lastCallOfAdds();
        test.lastCallOfRefused();
        test.lastCallOfDearest();
        test.check.end();
    }

    /** Written out, not taken from Reference: products both below 0 and not, at either move down. */
    private void leafWrapsAround() {
        check.about("MIX: .. times .., moved down .., zeros coming in; LEAF of v: MIX (1, v)");
        long[][] due = {
            {0, -3890943948839090055L}, {1, 0}, {2, -1535350771747007001L}, {3, 7796372880487179078L},
            {-1, 5548761952261841878L}, {-2, -6448991058576371221L}, {1L << 32, -7563768468721741552L},
            {1L << 62, 4884825088294616551L}, {Long.MIN_VALUE, -2995737954261917859L},
            {Long.MAX_VALUE, 4653555957518879282L},
        };
        for (long[] pair : due) {
            LogTree x = new LogTree();
            x.add(pair[0]);
            check.due("LEAF of " + pair[0], pair[1], x.head(1));
            check.due("LEAF of " + pair[0] + " by Reference", pair[1], Reference.leaf(pair[0]));
            check.due("LEAF of " + pair[0] + " shown", true, x.shows(0, 1, pair[0], pair[1]));
        }
    }

    private void nodeWrapsAround() {
        check.about("NODE of a and b: MIX (MIX (2, a), b)");
        long[][] due = {
            {2, 0, 0}, {0, 2, -3683388261039202481L}, {0, 0, 7216118836176187536L},
            {Long.MIN_VALUE, Long.MAX_VALUE, 7031945593801130067L}, {-1, -1, 7424552788720850638L},
        };
        for (long[] row : due) {
            LogTree x = new LogTree();
            x.length(1);
            x.alter(0, row[1]);
            String what = "NODE of " + row[0] + " and " + row[1];
            check.due(what, true, x.grew(1, 2, row[0], row[2]));
            check.due(what + " by Reference", row[2], Reference.node(row[0], row[1]));
        }
        LogTree x = new LogTree();
        x.fill(2, 1, 0);
        check.due("NODE of two LEAVES of 1", 7216118836176187536L, x.head(2));
    }

    private void headOfFew() {
        check.about("HEAD: of none 0; of one its LEAF");
        for (int leaves : new int[] {0, 1, 2, 600}) {
            check.due("head(0) of " + leaves, 0, Start.leaves(leaves).head(0));
        }
        for (int leaves : new int[] {1, 2, 600}) {
            LogTree x = Start.leaves(leaves);
            check.due("head(1) of " + leaves, Reference.leaf(Start.value(0)), x.head(1));
            check.due("the last of " + leaves,
                    Reference.leaf(Start.value(leaves - 1)), x.part(leaves - 1, leaves));
        }
    }

    private void headSplits() {
        check.about("HEAD of n: with the greatest power of two k below n");
        int[][] splits = {{2, 1}, {3, 2}, {4, 2}, {5, 4}, {7, 4}, {8, 4}, {9, 8}, {255, 128}, {256, 128},
            {257, 256}, {511, 256}, {512, 256}, {513, 512}, {599, 512}, {600, 512}};
        LogTree x = Start.leaves(600);
        for (int[] pair : splits) {
            int n = pair[0];
            int k = pair[1];
            long due = Reference.node(x.part(0, k), x.part(k, n));
            check.due("head(" + n + ")", due, x.head(n));
            check.due("head(" + n + ") by Reference", Reference.head(Start.values(0, n)), x.head(n));
            long shifted = Reference.node(x.part(600 - n, 600 - n + k), x.part(600 - n + k, 600));
            check.due("part of the last " + n, shifted, x.part(600 - n, 600));
        }
    }

    private void leavesFromNought() {
        check.about("LEAVES: .. numbered from 0");
        LogTree x = Start.leaves(600);
        check.due("find the first", 0, x.find(600, Start.value(0)));
        check.due("find the last", 599, x.find(600, Start.value(599)));
        check.due("part(0, 1)", Reference.leaf(Start.value(0)), x.part(0, 1));
        check.due("path(0, 2)", 1, x.path(0, 2));
        check.due("path(0, 2): number 0", Reference.leaf(Start.value(1)), x.proof(0));
    }

    private void leavesAtMost() {
        check.about("LEAVES: longs, at most 600");
        LogTree x = Start.leaves(600);
        check.due("LEAVES", 600, x.count(0));
        check.due("head", Reference.head(Start.values(0, 600)), x.head(600));
        check.refused("add(1)", IllegalStateException.class, () -> Start.leavesAndProof(600, 4), y -> y.add(1));
        check.refused("fill(1, 1, 1)", IllegalStateException.class,
                () -> Start.leavesAndProof(600, 4), y -> y.fill(1, 1, 1));
    }

    private void proofAtMost() {
        check.about("PROOF: a row of at most 40 longs, none at first");
        LogTree x = new LogTree();
        check.due("length at first", 0, x.count(1));
        check.due("length(40)", 0, x.length(40));
        for (int i = 0; i < 40; i++) {
            check.due("number " + i + " at first", 0, x.proof(i));
            x.alter(i, Start.number(i));
        }
        for (int i = 0; i < 40; i++) {
            check.due("number " + i, Start.number(i), x.proof(i));
        }
        check.refused("length(41)", IllegalArgumentException.class,
                () -> Start.leavesAndProof(600, 40), y -> y.length(41));
    }

    private void proofStaysWhenLeavesCome() {
        check.about("PROOF: .. it stays when LEAVES come");
        for (int length : new int[] {0, 1, 40}) {
            LogTree x = Start.leavesAndProof(0, length);
            String before = State.proof(x);
            x.add(5);
            check.dueText("add to none over " + length, before, State.proof(x));
            x.fill(200, 5, 5);
            x.fill(200, 5, 5);
            x.fill(198, 5, 5);
            x.add(5);
            check.due("LEAVES", 600, x.count(0));
            check.dueText("up to 600 over " + length, before, State.proof(x));
        }
        LogTree x = Start.leaves(5);
        x.path(4, 5);
        String path = State.proof(x);
        x.add(5);
        check.dueText("add over a path", path, State.proof(x));
        x.steps(5, 6);
        String steps = State.proof(x);
        x.fill(3, 5, 5);
        check.dueText("fill over steps", steps, State.proof(x));
    }

    private void proofStaysWhenLeavesGo() {
        check.about("PROOF: .. it stays when LEAVES .. go");
        for (int length : new int[] {0, 1, 40}) {
            LogTree x = Start.leavesAndProof(600, length);
            String before = State.proof(x);
            for (int n : new int[] {600, 599, 1, 0}) {
                x.cut(n);
                check.dueText("cut(" + n + ") over " + length, before, State.proof(x));
            }
        }
        LogTree x = Start.leaves(5);
        x.path(4, 5);
        String path = State.proof(x);
        x.cut(4);
        check.dueText("the path's LEAF went", path, State.proof(x));
        x.cut(0);
        check.dueText("all of the path went", path, State.proof(x));
        check.due("one's length", 1, x.count(1));
    }

    /** Every call that can be refused, one behind the other, at both ends of the rows. */
    private void throwsAndChangesNothing() {
        check.about("A call that throws changes nothing.");
        for (int leaves : new int[] {0, 1, 599, 600}) {
            for (int length : new int[] {0, 1, 40}) {
                LogTree x = Start.leavesAndProof(leaves, length);
                String what = leaves + " LEAVES, PROOF of " + length;
                for (Check.Call call : refusedCalls(x, leaves, length)) {
                    check.due(what + ": refused", true, Check.outcome(call).startsWith("throws "));
                }
                check.dueText(what + ": state", State.of(Start.leavesAndProof(leaves, length)), State.of(x));
            }
        }
    }

    private static Check.Call[] refusedCalls(LogTree x, int leaves, int length) {
        int most = Math.min(200, 601 - leaves);
        return new Check.Call[] {
            () -> leaves == 600 ? x.add(3) : x.fill(-1, 3, 3), () -> x.fill(0, 3, 3), () -> x.fill(201, 3, 3),
            () -> leaves > 400 ? x.fill(most, 3, 3) : x.fill(202, 3, 3), () -> x.cut(-1), () -> x.cut(leaves + 1),
            () -> x.head(-1), () -> x.head(leaves + 1), () -> x.part(-1, 0), () -> x.part(0, leaves + 1),
            () -> x.path(-1, leaves), () -> x.path(leaves, leaves), () -> x.path(0, leaves + 1),
            () -> x.steps(0, leaves), () -> x.steps(leaves + 1, leaves + 1), () -> x.proof(-1),
            () -> x.proof(length), () -> x.alter(-1, 3), () -> x.alter(length, 3), () -> x.length(-1),
            () -> x.length(41), () -> x.find(leaves + 1, 3),
        };
    }

    private void lastCallOfAdds() {
        check.about("An object is used for at most 512 calls");
        LogTree x = new LogTree();
        for (int i = 0; i < MOST_CALLS - 1; i++) {
            x.add(Start.value(i));
        }
        check.due("call 512", MOST_CALLS, x.add(Start.value(MOST_CALLS - 1)));
        LogTree y = new LogTree();
        for (int i = 0; i < MOST_CALLS - 1; i++) {
            y.add(Start.value(i));
        }
        check.due("call 512 of another", Reference.head(Start.values(0, MOST_CALLS - 1)), y.head(MOST_CALLS - 1));
    }

    private void lastCallOfRefused() {
        check.about("An object is used for at most 512 calls, refused ones too");
        LogTree x = new LogTree();
        x.add(5);
        for (int i = 1; i < MOST_CALLS - 1; i++) {
            check.dueThrow("call " + (i + 1), NoSuchElementException.class, () -> x.head(2));
        }
        check.due("call 512", Reference.leaf(5), x.head(1));
    }

    private void lastCallOfDearest() {
        check.about("An object is used for at most 512 calls, of the longest rows");
        LogTree x = Start.leaves(600);
        int due = Reference.steps(511, Start.values(0, 600)).size();
        for (int i = 4; i < MOST_CALLS; i++) {
            check.due("call " + (i + 1), due, x.steps(511, 600));
        }
    }
}
