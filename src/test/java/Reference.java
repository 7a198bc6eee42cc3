import java.math.BigInteger;
import java.util.ArrayList;
import java.util.List;

/**
 * The document's terms a second time, by other ways than the class goes: heads and paths level by
 * level from the leaves up, proofs judged from their first number up by the bits of the places.
 */
final class Reference {
    private static final BigInteger WORD = BigInteger.ONE.shiftLeft(64);
    private static final BigInteger FIRST = new BigInteger("-7046029254386353131");
    private static final BigInteger SECOND = new BigInteger("-4658895280553007687");

    private Reference() {
    }

    /** MIX over whole numbers, every product cut back to 64 bits: slow, and told word for word. */
    static long mix(long h, long x) {
        BigInteger y = unsigned(h).xor(unsigned(x)).multiply(FIRST).mod(WORD);
        BigInteger z = y.xor(y.shiftRight(29)).multiply(SECOND).mod(WORD);
        return z.xor(z.shiftRight(32)).longValue();
    }

    private static BigInteger unsigned(long x) {
        return BigInteger.valueOf(x).mod(WORD);
    }

    static long leaf(long v) {
        return mix(1, v);
    }

    /** MIX backwards: the one long whose LEAF is this. */
    static long valueOfLeaf(long leaf) {
        BigInteger z = unsigned(leaf);
        z = z.xor(z.shiftRight(32)).multiply(SECOND.modInverse(WORD)).mod(WORD);
        BigInteger y = z.xor(z.shiftRight(29)).xor(z.shiftRight(58));
        return y.multiply(FIRST.modInverse(WORD)).mod(WORD).longValue() ^ 1;
    }

    static long node(long a, long b) {
        return mix(mix(2, a), b);
    }

    static long head(List<Long> values) {
        if (values.isEmpty()) {
            return 0;
        }
        List<Long> level = leaves(values);
        while (level.size() > 1) {
            level = levelAbove(level);
        }
        return level.get(0);
    }

    static List<Long> path(int m, List<Long> values) {
        List<Long> proof = new ArrayList<>();
        List<Long> level = leaves(values);
        int place = m;
        while (level.size() > 1) {
            int neighbour = place ^ 1;
            if (neighbour < level.size()) {
                proof.add(level.get(neighbour));
            }
            level = levelAbove(level);
            place >>= 1;
        }
        return proof;
    }

    /** Level by level, too: where the last of the first m has a whole pair, it goes up with it. */
    static List<Long> steps(int m, List<Long> values) {
        List<Long> proof = new ArrayList<>();
        if (m == values.size()) {
            return proof;
        }
        List<Long> level = leaves(values);
        int last = m - 1;
        while ((last & 1) == 1) {
            level = levelAbove(level);
            last >>= 1;
        }
        if (last > 0) {
            proof.add(level.get(last));
        }
        while (level.size() > 1) {
            int neighbour = last ^ 1;
            if (neighbour < level.size()) {
                proof.add(level.get(neighbour));
            }
            level = levelAbove(level);
            last >>= 1;
        }
        return proof;
    }

    /** A last one without a neighbour goes up as it is. */
    private static List<Long> levelAbove(List<Long> level) {
        List<Long> above = new ArrayList<>();
        for (int i = 0; i < level.size(); i += 2) {
            boolean pair = i + 1 < level.size();
            above.add(pair ? node(level.get(i), level.get(i + 1)) : level.get(i));
        }
        return above;
    }

    private static List<Long> leaves(List<Long> values) {
        List<Long> level = new ArrayList<>();
        for (long v : values) {
            level.add(leaf(v));
        }
        return level;
    }

    static boolean shows(List<Long> proof, int m, int n, long v, long head) {
        if (m < 0 || m >= n || n > (1 << 30)) {
            return false;
        }
        Long made = headByPath(proof, m, n, v);
        return made != null && made == head;
    }

    /** Null: the proof is too long or too short. */
    static Long headByPath(List<Long> proof, int m, int n, long v) {
        int place = m;
        int last = n - 1;
        long made = leaf(v);
        for (long p : proof) {
            if (last == 0) {
                return null;
            }
            if ((place & 1) == 1 || place == last) {
                made = node(p, made);
                while ((place & 1) == 0 && place != 0) {
                    place >>= 1;
                    last >>= 1;
                }
            } else {
                made = node(made, p);
            }
            place >>= 1;
            last >>= 1;
        }
        return last == 0 ? made : null;
    }

    static boolean grew(List<Long> proof, int m, int n, long before, long head) {
        if (m < 1 || m > n || n > (1 << 30)) {
            return false;
        }
        long[] made = headsBySteps(proof, m, n, before);
        return made != null && made[0] == before && made[1] == head;
    }

    /** The old head and the new one; null: the proof is too long or too short. */
    static long[] headsBySteps(List<Long> proof, int m, int n, long before) {
        if (m == n) {
            return proof.isEmpty() ? new long[] {before, before} : null;
        }
        List<Long> row = new ArrayList<>(proof);
        if ((m & (m - 1)) == 0) {
            row.add(0, before);
        }
        if (row.isEmpty()) {
            return null;
        }
        int place = m - 1;
        int last = n - 1;
        while ((place & 1) == 1) {
            place >>= 1;
            last >>= 1;
        }
        long oldHead = row.get(0);
        long newHead = row.get(0);
        for (int i = 1; i < row.size(); i++) {
            if (last == 0) {
                return null;
            }
            if ((place & 1) == 1 || place == last) {
                oldHead = node(row.get(i), oldHead);
                newHead = node(row.get(i), newHead);
                while ((place & 1) == 0 && place != 0) {
                    place >>= 1;
                    last >>= 1;
                }
            } else {
                newHead = node(newHead, row.get(i));
            }
            place >>= 1;
            last >>= 1;
        }
        return last == 0 ? new long[] {oldHead, newHead} : null;
    }
}
