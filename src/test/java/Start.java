import java.util.ArrayList;
import java.util.List;

/** Objects to begin with: LEAF i is that of value(i), number i of PROOF is number(i). */
final class Start {
    private Start() {
    }

    static long value(int i) {
        return 1_000_003L * i - 500;
    }

    static long number(int i) {
        return -77L - i;
    }

    static List<Long> values(int from, int to) {
        List<Long> row = new ArrayList<>();
        for (int i = from; i < to; i++) {
            row.add(value(i));
        }
        return row;
    }

    static LogTree leaves(int leaves) {
        return leavesAndProof(leaves, 0);
    }

    /** At most 44 calls. */
    static LogTree leavesAndProof(int leaves, int proof) {
        LogTree x = new LogTree();
        for (int i = 0; i < leaves; i += 200) {
            x.fill(Math.min(200, leaves - i), value(i), value(1) - value(0));
        }
        x.length(proof);
        for (int i = 0; i < proof; i++) {
            x.alter(i, number(i));
        }
        return x;
    }
}
